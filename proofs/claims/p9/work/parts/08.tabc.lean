def tmX8_record (pc : Nat) : zI := match pc with
  | 0 => (1, 0, 0, 1, 0)
  | 1 => (46, 9, 0, 4, 0)
  | 4 => (1, 0, 0, 5, 0)
  | 5 => (46, 9, 0, 8, 0)
  | 11 => (6, 0, 0, 12, 1)
  | 12 => (8, 0, 0, 13, 0)
  | 16 => (3, 1, 0, 17, 0)
  | 17 => (0, 1, 0, 18, 0)
  | 18 => (6, 0, 0, 19, (-1))
  | 19 => (41, 26, 0, 22, 0)
  | 22 => (6, 0, 0, 23, (-1))
  | 23 => (33, 34, 0, 26, 0)
  | 26 => (1, 0, 0, 27, 0)
  | 27 => (46, 9, 0, 30, 0)
  | 30 => (0, 1, 0, 31, 0)
  | 34 => (53, 0, 0, 35, 0)
  | _ => (99, 0, 0, 0, 0)
def tX8_record (pc : Nat) : zI := if pc < 35 then tmX8_record pc else (99, 0, 0, 0, 0)
theorem tkX8_record : z_tab RX8 wsX8_record 2 (some .int) cX8_record 35 tX8_record := z_tab_of (tm := tmX8_record) (by decide +kernel)
theorem sX8_record_0 (lv : zL) (st : List Value) (w : zW) (nx K : Nat → zL → List Value → zW → Prop) (Rt : Option Value → zW → Prop) : z_st1 (tX8_record 0) 0 lv st w nx K Rt = (z_la lv 0 (fun x => nx 1 lv (.ref x :: st) w)) := id rfl
theorem sX8_record_1 (lv : zL) (st : List Value) (w : zW) (nx K : Nat → zL → List Value → zW → Prop) (Rt : Option Value → zW → Prop) : z_st1 (tX8_record 1) 1 lv st w nx K Rt = (z_1a st (fun x r => z_ob w x 9 (fun fs => z_fl fs 0 (fun u => nx 4 lv (u :: r) w)))) := id rfl
theorem sX8_record_4 (lv : zL) (st : List Value) (w : zW) (nx K : Nat → zL → List Value → zW → Prop) (Rt : Option Value → zW → Prop) : z_st1 (tX8_record 4) 4 lv st w nx K Rt = (z_la lv 0 (fun x => nx 5 lv (.ref x :: st) w)) := id rfl
theorem sX8_record_5 (lv : zL) (st : List Value) (w : zW) (nx K : Nat → zL → List Value → zW → Prop) (Rt : Option Value → zW → Prop) : z_st1 (tX8_record 5) 5 lv st w nx K Rt = (z_1a st (fun x r => z_ob w x 9 (fun fs => z_fl fs 0 (fun u => nx 8 lv (u :: r) w)))) := id rfl
theorem sX8_record_11 (lv : zL) (st : List Value) (w : zW) (nx K : Nat → zL → List Value → zW → Prop) (Rt : Option Value → zW → Prop) : z_st1 (tX8_record 11) 11 lv st w nx K Rt = (nx 12 lv (.int (1 : Int32) :: st) w) := id rfl
theorem sX8_record_12 (lv : zL) (st : List Value) (w : zW) (nx K : Nat → zL → List Value → zW → Prop) (Rt : Option Value → zW → Prop) : z_st1 (tX8_record 12) 12 lv st w nx K Rt = (z_2i st (fun x y r => nx 13 lv (.int (x + y) :: r) w)) := id rfl
theorem sX8_record_16 (lv : zL) (st : List Value) (w : zW) (nx K : Nat → zL → List Value → zW → Prop) (Rt : Option Value → zW → Prop) : z_st1 (tX8_record 16) 16 lv st w nx K Rt = (z_1i st (fun x r => z_ok1 lv 1 = true ∧ nx 17 (lv.set 1 (some (.int x))) r w)) := id rfl
theorem sX8_record_17 (lv : zL) (st : List Value) (w : zW) (nx K : Nat → zL → List Value → zW → Prop) (Rt : Option Value → zW → Prop) : z_st1 (tX8_record 17) 17 lv st w nx K Rt = (z_li lv 1 (fun x => nx 18 lv (.int x :: st) w)) := id rfl
theorem sX8_record_18 (lv : zL) (st : List Value) (w : zW) (nx K : Nat → zL → List Value → zW → Prop) (Rt : Option Value → zW → Prop) : z_st1 (tX8_record 18) 18 lv st w nx K Rt = (nx 19 lv (.int (-1 : Int32) :: st) w) := id rfl
theorem sX8_record_19 (lv : zL) (st : List Value) (w : zW) (nx K : Nat → zL → List Value → zW → Prop) (Rt : Option Value → zW → Prop) : z_st1 (tX8_record 19) 19 lv st w nx K Rt = (z_2i st (fun x y r => (¬ x = y → nx 26 lv r w) ∧ (x = y → nx 22 lv r w))) := id rfl
theorem sX8_record_22 (lv : zL) (st : List Value) (w : zW) (nx K : Nat → zL → List Value → zW → Prop) (Rt : Option Value → zW → Prop) : z_st1 (tX8_record 22) 22 lv st w nx K Rt = (nx 23 lv (.int (-1 : Int32) :: st) w) := id rfl
theorem sX8_record_23 (lv : zL) (st : List Value) (w : zW) (nx K : Nat → zL → List Value → zW → Prop) (Rt : Option Value → zW → Prop) : z_st1 (tX8_record 23) 23 lv st w nx K Rt = (nx 34 lv st w) := id rfl
theorem sX8_record_26 (lv : zL) (st : List Value) (w : zW) (nx K : Nat → zL → List Value → zW → Prop) (Rt : Option Value → zW → Prop) : z_st1 (tX8_record 26) 26 lv st w nx K Rt = (z_la lv 0 (fun x => nx 27 lv (.ref x :: st) w)) := id rfl
theorem sX8_record_27 (lv : zL) (st : List Value) (w : zW) (nx K : Nat → zL → List Value → zW → Prop) (Rt : Option Value → zW → Prop) : z_st1 (tX8_record 27) 27 lv st w nx K Rt = (z_1a st (fun x r => z_ob w x 9 (fun fs => z_fl fs 0 (fun u => nx 30 lv (u :: r) w)))) := id rfl
theorem sX8_record_30 (lv : zL) (st : List Value) (w : zW) (nx K : Nat → zL → List Value → zW → Prop) (Rt : Option Value → zW → Prop) : z_st1 (tX8_record 30) 30 lv st w nx K Rt = (z_li lv 1 (fun x => nx 31 lv (.int x :: st) w)) := id rfl
theorem sX8_record_34 (lv : zL) (st : List Value) (w : zW) (nx K : Nat → zL → List Value → zW → Prop) (Rt : Option Value → zW → Prop) : z_st1 (tX8_record 34) 34 lv st w nx K Rt = (z_e1 st (fun x => Rt (some (.int x)) w)) := id rfl
theorem sX8_record_8 (lv : zL) (st : List Value) (w : zW) (nx K : Nat → zL → List Value → zW → Prop) (Rt : Option Value → zW → Prop) : z_st1 (tX8_record 8) 8 lv st w nx K Rt = K 8 lv st w := id rfl
theorem sX8_record_13 (lv : zL) (st : List Value) (w : zW) (nx K : Nat → zL → List Value → zW → Prop) (Rt : Option Value → zW → Prop) : z_st1 (tX8_record 13) 13 lv st w nx K Rt = K 13 lv st w := id rfl
theorem sX8_record_31 (lv : zL) (st : List Value) (w : zW) (nx K : Nat → zL → List Value → zW → Prop) (Rt : Option Value → zW → Prop) : z_st1 (tX8_record 31) 31 lv st w nx K Rt = K 31 lv st w := id rfl
theorem dX8_record_8 : decode cX8_record 8 = .ok (.invokevirtual 110, 3) := by decide +kernel
theorem dX8_record_13 : decode cX8_record 13 = .ok (.invokevirtual 114, 3) := by decide +kernel
theorem dX8_record_31 : decode cX8_record 31 = .ok (.invokevirtual 118, 3) := by decide +kernel

def tmX8_octet (pc : Nat) : zI := match pc with
  | 0 => (1, 0, 0, 1, 0)
  | 1 => (0, 1, 0, 2, 0)
  | 5 => (35, 11, 0, 8, 0)
  | 8 => (6, 0, 0, 10, (-2))
  | 10 => (53, 0, 0, 11, 0)
  | 11 => (0, 2, 0, 12, 0)
  | 12 => (36, 21, 0, 15, 0)
  | 15 => (0, 2, 0, 16, 0)
  | 16 => (6, 0, 0, 18, 32)
  | 18 => (42, 24, 0, 21, 0)
  | 21 => (6, 0, 0, 23, (-4))
  | 23 => (53, 0, 0, 24, 0)
  | 24 => (1, 0, 0, 25, 0)
  | 25 => (46, 9, 0, 28, 0)
  | 28 => (0, 1, 0, 29, 0)
  | 29 => (6, 0, 0, 30, 1)
  | 30 => (9, 0, 0, 31, 0)
  | 31 => (0, 2, 0, 32, 0)
  | 32 => (0, 3, 0, 33, 0)
  | 33 => (6, 0, 0, 36, 255)
  | 36 => (11, 0, 0, 37, 0)
  | 40 => (1, 0, 0, 41, 0)
  | 41 => (46, 9, 0, 44, 0)
  | 44 => (0, 1, 0, 45, 0)
  | 45 => (6, 0, 0, 46, 1)
  | 46 => (9, 0, 0, 47, 0)
  | 50 => (53, 0, 0, 51, 0)
  | _ => (99, 0, 0, 0, 0)
def tX8_octet (pc : Nat) : zI := if pc < 51 then tmX8_octet pc else (99, 0, 0, 0, 0)
theorem tkX8_octet : z_tab RX8 wsX8_octet 4 (some .int) cX8_octet 51 tX8_octet := z_tab_of (tm := tmX8_octet) (by decide +kernel)
theorem sX8_octet_0 (lv : zL) (st : List Value) (w : zW) (nx K : Nat → zL → List Value → zW → Prop) (Rt : Option Value → zW → Prop) : z_st1 (tX8_octet 0) 0 lv st w nx K Rt = (z_la lv 0 (fun x => nx 1 lv (.ref x :: st) w)) := id rfl
theorem sX8_octet_1 (lv : zL) (st : List Value) (w : zW) (nx K : Nat → zL → List Value → zW → Prop) (Rt : Option Value → zW → Prop) : z_st1 (tX8_octet 1) 1 lv st w nx K Rt = (z_li lv 1 (fun x => nx 2 lv (.int x :: st) w)) := id rfl
theorem sX8_octet_5 (lv : zL) (st : List Value) (w : zW) (nx K : Nat → zL → List Value → zW → Prop) (Rt : Option Value → zW → Prop) : z_st1 (tX8_octet 5) 5 lv st w nx K Rt = (z_1i st (fun x r => (¬ x = 0 → nx 11 lv r w) ∧ (x = 0 → nx 8 lv r w))) := id rfl
theorem sX8_octet_8 (lv : zL) (st : List Value) (w : zW) (nx K : Nat → zL → List Value → zW → Prop) (Rt : Option Value → zW → Prop) : z_st1 (tX8_octet 8) 8 lv st w nx K Rt = (nx 10 lv (.int (-2 : Int32) :: st) w) := id rfl
theorem sX8_octet_10 (lv : zL) (st : List Value) (w : zW) (nx K : Nat → zL → List Value → zW → Prop) (Rt : Option Value → zW → Prop) : z_st1 (tX8_octet 10) 10 lv st w nx K Rt = (z_e1 st (fun x => Rt (some (.int x)) w)) := id rfl
theorem sX8_octet_11 (lv : zL) (st : List Value) (w : zW) (nx K : Nat → zL → List Value → zW → Prop) (Rt : Option Value → zW → Prop) : z_st1 (tX8_octet 11) 11 lv st w nx K Rt = (z_li lv 2 (fun x => nx 12 lv (.int x :: st) w)) := id rfl
theorem sX8_octet_12 (lv : zL) (st : List Value) (w : zW) (nx K : Nat → zL → List Value → zW → Prop) (Rt : Option Value → zW → Prop) : z_st1 (tX8_octet 12) 12 lv st w nx K Rt = (z_1i st (fun x r => (x < 0 → nx 21 lv r w) ∧ (¬ x < 0 → nx 15 lv r w))) := id rfl
theorem sX8_octet_15 (lv : zL) (st : List Value) (w : zW) (nx K : Nat → zL → List Value → zW → Prop) (Rt : Option Value → zW → Prop) : z_st1 (tX8_octet 15) 15 lv st w nx K Rt = (z_li lv 2 (fun x => nx 16 lv (.int x :: st) w)) := id rfl
theorem sX8_octet_16 (lv : zL) (st : List Value) (w : zW) (nx K : Nat → zL → List Value → zW → Prop) (Rt : Option Value → zW → Prop) : z_st1 (tX8_octet 16) 16 lv st w nx K Rt = (nx 18 lv (.int (32 : Int32) :: st) w) := id rfl
theorem sX8_octet_18 (lv : zL) (st : List Value) (w : zW) (nx K : Nat → zL → List Value → zW → Prop) (Rt : Option Value → zW → Prop) : z_st1 (tX8_octet 18) 18 lv st w nx K Rt = (z_2i st (fun x y r => (x < y → nx 24 lv r w) ∧ (¬ x < y → nx 21 lv r w))) := id rfl
theorem sX8_octet_21 (lv : zL) (st : List Value) (w : zW) (nx K : Nat → zL → List Value → zW → Prop) (Rt : Option Value → zW → Prop) : z_st1 (tX8_octet 21) 21 lv st w nx K Rt = (nx 23 lv (.int (-4 : Int32) :: st) w) := id rfl
theorem sX8_octet_23 (lv : zL) (st : List Value) (w : zW) (nx K : Nat → zL → List Value → zW → Prop) (Rt : Option Value → zW → Prop) : z_st1 (tX8_octet 23) 23 lv st w nx K Rt = (z_e1 st (fun x => Rt (some (.int x)) w)) := id rfl
theorem sX8_octet_24 (lv : zL) (st : List Value) (w : zW) (nx K : Nat → zL → List Value → zW → Prop) (Rt : Option Value → zW → Prop) : z_st1 (tX8_octet 24) 24 lv st w nx K Rt = (z_la lv 0 (fun x => nx 25 lv (.ref x :: st) w)) := id rfl
theorem sX8_octet_25 (lv : zL) (st : List Value) (w : zW) (nx K : Nat → zL → List Value → zW → Prop) (Rt : Option Value → zW → Prop) : z_st1 (tX8_octet 25) 25 lv st w nx K Rt = (z_1a st (fun x r => z_ob w x 9 (fun fs => z_fl fs 0 (fun u => nx 28 lv (u :: r) w)))) := id rfl
theorem sX8_octet_28 (lv : zL) (st : List Value) (w : zW) (nx K : Nat → zL → List Value → zW → Prop) (Rt : Option Value → zW → Prop) : z_st1 (tX8_octet 28) 28 lv st w nx K Rt = (z_li lv 1 (fun x => nx 29 lv (.int x :: st) w)) := id rfl
theorem sX8_octet_29 (lv : zL) (st : List Value) (w : zW) (nx K : Nat → zL → List Value → zW → Prop) (Rt : Option Value → zW → Prop) : z_st1 (tX8_octet 29) 29 lv st w nx K Rt = (nx 30 lv (.int (1 : Int32) :: st) w) := id rfl
theorem sX8_octet_30 (lv : zL) (st : List Value) (w : zW) (nx K : Nat → zL → List Value → zW → Prop) (Rt : Option Value → zW → Prop) : z_st1 (tX8_octet 30) 30 lv st w nx K Rt = (z_2i st (fun x y r => nx 31 lv (.int (x - y) :: r) w)) := id rfl
theorem sX8_octet_31 (lv : zL) (st : List Value) (w : zW) (nx K : Nat → zL → List Value → zW → Prop) (Rt : Option Value → zW → Prop) : z_st1 (tX8_octet 31) 31 lv st w nx K Rt = (z_li lv 2 (fun x => nx 32 lv (.int x :: st) w)) := id rfl
theorem sX8_octet_32 (lv : zL) (st : List Value) (w : zW) (nx K : Nat → zL → List Value → zW → Prop) (Rt : Option Value → zW → Prop) : z_st1 (tX8_octet 32) 32 lv st w nx K Rt = (z_li lv 3 (fun x => nx 33 lv (.int x :: st) w)) := id rfl
theorem sX8_octet_33 (lv : zL) (st : List Value) (w : zW) (nx K : Nat → zL → List Value → zW → Prop) (Rt : Option Value → zW → Prop) : z_st1 (tX8_octet 33) 33 lv st w nx K Rt = (nx 36 lv (.int (255 : Int32) :: st) w) := id rfl
theorem sX8_octet_36 (lv : zL) (st : List Value) (w : zW) (nx K : Nat → zL → List Value → zW → Prop) (Rt : Option Value → zW → Prop) : z_st1 (tX8_octet 36) 36 lv st w nx K Rt = (z_2i st (fun x y r => nx 37 lv (.int (x &&& y) :: r) w)) := id rfl
theorem sX8_octet_40 (lv : zL) (st : List Value) (w : zW) (nx K : Nat → zL → List Value → zW → Prop) (Rt : Option Value → zW → Prop) : z_st1 (tX8_octet 40) 40 lv st w nx K Rt = (z_la lv 0 (fun x => nx 41 lv (.ref x :: st) w)) := id rfl
theorem sX8_octet_41 (lv : zL) (st : List Value) (w : zW) (nx K : Nat → zL → List Value → zW → Prop) (Rt : Option Value → zW → Prop) : z_st1 (tX8_octet 41) 41 lv st w nx K Rt = (z_1a st (fun x r => z_ob w x 9 (fun fs => z_fl fs 0 (fun u => nx 44 lv (u :: r) w)))) := id rfl
theorem sX8_octet_44 (lv : zL) (st : List Value) (w : zW) (nx K : Nat → zL → List Value → zW → Prop) (Rt : Option Value → zW → Prop) : z_st1 (tX8_octet 44) 44 lv st w nx K Rt = (z_li lv 1 (fun x => nx 45 lv (.int x :: st) w)) := id rfl
theorem sX8_octet_45 (lv : zL) (st : List Value) (w : zW) (nx K : Nat → zL → List Value → zW → Prop) (Rt : Option Value → zW → Prop) : z_st1 (tX8_octet 45) 45 lv st w nx K Rt = (nx 46 lv (.int (1 : Int32) :: st) w) := id rfl
theorem sX8_octet_46 (lv : zL) (st : List Value) (w : zW) (nx K : Nat → zL → List Value → zW → Prop) (Rt : Option Value → zW → Prop) : z_st1 (tX8_octet 46) 46 lv st w nx K Rt = (z_2i st (fun x y r => nx 47 lv (.int (x - y) :: r) w)) := id rfl
theorem sX8_octet_50 (lv : zL) (st : List Value) (w : zW) (nx K : Nat → zL → List Value → zW → Prop) (Rt : Option Value → zW → Prop) : z_st1 (tX8_octet 50) 50 lv st w nx K Rt = (z_e1 st (fun x => Rt (some (.int x)) w)) := id rfl
theorem sX8_octet_2 (lv : zL) (st : List Value) (w : zW) (nx K : Nat → zL → List Value → zW → Prop) (Rt : Option Value → zW → Prop) : z_st1 (tX8_octet 2) 2 lv st w nx K Rt = K 2 lv st w := id rfl
theorem sX8_octet_37 (lv : zL) (st : List Value) (w : zW) (nx K : Nat → zL → List Value → zW → Prop) (Rt : Option Value → zW → Prop) : z_st1 (tX8_octet 37) 37 lv st w nx K Rt = K 37 lv st w := id rfl
theorem sX8_octet_47 (lv : zL) (st : List Value) (w : zW) (nx K : Nat → zL → List Value → zW → Prop) (Rt : Option Value → zW → Prop) : z_st1 (tX8_octet 47) 47 lv st w nx K Rt = K 47 lv st w := id rfl
theorem dX8_octet_2 : decode cX8_octet 2 = .ok (.invokevirtual 121, 3) := by decide +kernel
theorem dX8_octet_37 : decode cX8_octet 37 = .ok (.invokevirtual 125, 3) := by decide +kernel
theorem dX8_octet_47 : decode cX8_octet 47 = .ok (.invokevirtual 129, 3) := by decide +kernel

def tmX8_include (pc : Nat) : zI := match pc with
  | 0 => (0, 1, 0, 1, 0)
  | 1 => (36, 30, 0, 4, 0)
  | 4 => (0, 1, 0, 5, 0)
  | 5 => (6, 0, 0, 7, 32)
  | 7 => (43, 30, 0, 10, 0)
  | 10 => (0, 2, 0, 11, 0)
  | 11 => (36, 30, 0, 14, 0)
  | 14 => (0, 2, 0, 15, 0)
  | 15 => (6, 0, 0, 16, 4)
  | 16 => (44, 30, 0, 19, 0)
  | 19 => (0, 3, 0, 20, 0)
  | 20 => (36, 30, 0, 23, 0)
  | 23 => (0, 3, 0, 24, 0)
  | 24 => (6, 0, 0, 27, 255)
  | 27 => (45, 33, 0, 30, 0)
  | 30 => (6, 0, 0, 32, (-4))
  | 32 => (53, 0, 0, 33, 0)
  | 33 => (1, 0, 0, 34, 0)
  | 34 => (46, 9, 4, 37, 0)
  | 37 => (0, 1, 0, 38, 0)
  | 38 => (0, 2, 0, 39, 0)
  | 39 => (0, 3, 0, 40, 0)
  | 43 => (6, 0, 0, 44, 1)
  | 44 => (53, 0, 0, 45, 0)
  | _ => (99, 0, 0, 0, 0)
def tX8_include (pc : Nat) : zI := if pc < 45 then tmX8_include pc else (99, 0, 0, 0, 0)
theorem tkX8_include : z_tab RX8 wsX8_include 4 (some .int) cX8_include 45 tX8_include := z_tab_of (tm := tmX8_include) (by decide +kernel)
theorem sX8_include_0 (lv : zL) (st : List Value) (w : zW) (nx K : Nat → zL → List Value → zW → Prop) (Rt : Option Value → zW → Prop) : z_st1 (tX8_include 0) 0 lv st w nx K Rt = (z_li lv 1 (fun x => nx 1 lv (.int x :: st) w)) := id rfl
theorem sX8_include_1 (lv : zL) (st : List Value) (w : zW) (nx K : Nat → zL → List Value → zW → Prop) (Rt : Option Value → zW → Prop) : z_st1 (tX8_include 1) 1 lv st w nx K Rt = (z_1i st (fun x r => (x < 0 → nx 30 lv r w) ∧ (¬ x < 0 → nx 4 lv r w))) := id rfl
theorem sX8_include_4 (lv : zL) (st : List Value) (w : zW) (nx K : Nat → zL → List Value → zW → Prop) (Rt : Option Value → zW → Prop) : z_st1 (tX8_include 4) 4 lv st w nx K Rt = (z_li lv 1 (fun x => nx 5 lv (.int x :: st) w)) := id rfl
theorem sX8_include_5 (lv : zL) (st : List Value) (w : zW) (nx K : Nat → zL → List Value → zW → Prop) (Rt : Option Value → zW → Prop) : z_st1 (tX8_include 5) 5 lv st w nx K Rt = (nx 7 lv (.int (32 : Int32) :: st) w) := id rfl
theorem sX8_include_7 (lv : zL) (st : List Value) (w : zW) (nx K : Nat → zL → List Value → zW → Prop) (Rt : Option Value → zW → Prop) : z_st1 (tX8_include 7) 7 lv st w nx K Rt = (z_2i st (fun x y r => (y ≤ x → nx 30 lv r w) ∧ (¬ y ≤ x → nx 10 lv r w))) := id rfl
theorem sX8_include_10 (lv : zL) (st : List Value) (w : zW) (nx K : Nat → zL → List Value → zW → Prop) (Rt : Option Value → zW → Prop) : z_st1 (tX8_include 10) 10 lv st w nx K Rt = (z_li lv 2 (fun x => nx 11 lv (.int x :: st) w)) := id rfl
theorem sX8_include_11 (lv : zL) (st : List Value) (w : zW) (nx K : Nat → zL → List Value → zW → Prop) (Rt : Option Value → zW → Prop) : z_st1 (tX8_include 11) 11 lv st w nx K Rt = (z_1i st (fun x r => (x < 0 → nx 30 lv r w) ∧ (¬ x < 0 → nx 14 lv r w))) := id rfl
theorem sX8_include_14 (lv : zL) (st : List Value) (w : zW) (nx K : Nat → zL → List Value → zW → Prop) (Rt : Option Value → zW → Prop) : z_st1 (tX8_include 14) 14 lv st w nx K Rt = (z_li lv 2 (fun x => nx 15 lv (.int x :: st) w)) := id rfl
theorem sX8_include_15 (lv : zL) (st : List Value) (w : zW) (nx K : Nat → zL → List Value → zW → Prop) (Rt : Option Value → zW → Prop) : z_st1 (tX8_include 15) 15 lv st w nx K Rt = (nx 16 lv (.int (4 : Int32) :: st) w) := id rfl
theorem sX8_include_16 (lv : zL) (st : List Value) (w : zW) (nx K : Nat → zL → List Value → zW → Prop) (Rt : Option Value → zW → Prop) : z_st1 (tX8_include 16) 16 lv st w nx K Rt = (z_2i st (fun x y r => (y < x → nx 30 lv r w) ∧ (¬ y < x → nx 19 lv r w))) := id rfl
theorem sX8_include_19 (lv : zL) (st : List Value) (w : zW) (nx K : Nat → zL → List Value → zW → Prop) (Rt : Option Value → zW → Prop) : z_st1 (tX8_include 19) 19 lv st w nx K Rt = (z_li lv 3 (fun x => nx 20 lv (.int x :: st) w)) := id rfl
theorem sX8_include_20 (lv : zL) (st : List Value) (w : zW) (nx K : Nat → zL → List Value → zW → Prop) (Rt : Option Value → zW → Prop) : z_st1 (tX8_include 20) 20 lv st w nx K Rt = (z_1i st (fun x r => (x < 0 → nx 30 lv r w) ∧ (¬ x < 0 → nx 23 lv r w))) := id rfl
theorem sX8_include_23 (lv : zL) (st : List Value) (w : zW) (nx K : Nat → zL → List Value → zW → Prop) (Rt : Option Value → zW → Prop) : z_st1 (tX8_include 23) 23 lv st w nx K Rt = (z_li lv 3 (fun x => nx 24 lv (.int x :: st) w)) := id rfl
theorem sX8_include_24 (lv : zL) (st : List Value) (w : zW) (nx K : Nat → zL → List Value → zW → Prop) (Rt : Option Value → zW → Prop) : z_st1 (tX8_include 24) 24 lv st w nx K Rt = (nx 27 lv (.int (255 : Int32) :: st) w) := id rfl
theorem sX8_include_27 (lv : zL) (st : List Value) (w : zW) (nx K : Nat → zL → List Value → zW → Prop) (Rt : Option Value → zW → Prop) : z_st1 (tX8_include 27) 27 lv st w nx K Rt = (z_2i st (fun x y r => (x ≤ y → nx 33 lv r w) ∧ (¬ x ≤ y → nx 30 lv r w))) := id rfl
theorem sX8_include_30 (lv : zL) (st : List Value) (w : zW) (nx K : Nat → zL → List Value → zW → Prop) (Rt : Option Value → zW → Prop) : z_st1 (tX8_include 30) 30 lv st w nx K Rt = (nx 32 lv (.int (-4 : Int32) :: st) w) := id rfl
theorem sX8_include_32 (lv : zL) (st : List Value) (w : zW) (nx K : Nat → zL → List Value → zW → Prop) (Rt : Option Value → zW → Prop) : z_st1 (tX8_include 32) 32 lv st w nx K Rt = (z_e1 st (fun x => Rt (some (.int x)) w)) := id rfl
theorem sX8_include_33 (lv : zL) (st : List Value) (w : zW) (nx K : Nat → zL → List Value → zW → Prop) (Rt : Option Value → zW → Prop) : z_st1 (tX8_include 33) 33 lv st w nx K Rt = (z_la lv 0 (fun x => nx 34 lv (.ref x :: st) w)) := id rfl
theorem sX8_include_34 (lv : zL) (st : List Value) (w : zW) (nx K : Nat → zL → List Value → zW → Prop) (Rt : Option Value → zW → Prop) : z_st1 (tX8_include 34) 34 lv st w nx K Rt = (z_1a st (fun x r => z_ob w x 9 (fun fs => z_fl fs 4 (fun u => nx 37 lv (u :: r) w)))) := id rfl
theorem sX8_include_37 (lv : zL) (st : List Value) (w : zW) (nx K : Nat → zL → List Value → zW → Prop) (Rt : Option Value → zW → Prop) : z_st1 (tX8_include 37) 37 lv st w nx K Rt = (z_li lv 1 (fun x => nx 38 lv (.int x :: st) w)) := id rfl
theorem sX8_include_38 (lv : zL) (st : List Value) (w : zW) (nx K : Nat → zL → List Value → zW → Prop) (Rt : Option Value → zW → Prop) : z_st1 (tX8_include 38) 38 lv st w nx K Rt = (z_li lv 2 (fun x => nx 39 lv (.int x :: st) w)) := id rfl
theorem sX8_include_39 (lv : zL) (st : List Value) (w : zW) (nx K : Nat → zL → List Value → zW → Prop) (Rt : Option Value → zW → Prop) : z_st1 (tX8_include 39) 39 lv st w nx K Rt = (z_li lv 3 (fun x => nx 40 lv (.int x :: st) w)) := id rfl
theorem sX8_include_43 (lv : zL) (st : List Value) (w : zW) (nx K : Nat → zL → List Value → zW → Prop) (Rt : Option Value → zW → Prop) : z_st1 (tX8_include 43) 43 lv st w nx K Rt = (nx 44 lv (.int (1 : Int32) :: st) w) := id rfl
theorem sX8_include_44 (lv : zL) (st : List Value) (w : zW) (nx K : Nat → zL → List Value → zW → Prop) (Rt : Option Value → zW → Prop) : z_st1 (tX8_include 44) 44 lv st w nx K Rt = (z_e1 st (fun x => Rt (some (.int x)) w)) := id rfl
theorem sX8_include_40 (lv : zL) (st : List Value) (w : zW) (nx K : Nat → zL → List Value → zW → Prop) (Rt : Option Value → zW → Prop) : z_st1 (tX8_include 40) 40 lv st w nx K Rt = K 40 lv st w := id rfl
theorem dX8_include_40 : decode cX8_include 40 = .ok (.invokevirtual 132, 3) := by decide +kernel

def tmX8_sum (pc : Nat) : zI := match pc with
  | 0 => (0, 1, 0, 1, 0)
  | 1 => (0, 2, 0, 2, 0)
  | 2 => (6, 0, 0, 4, 8)
  | 7 => (35, 13, 0, 10, 0)
  | 10 => (6, 0, 0, 12, (-4))
  | 12 => (53, 0, 0, 13, 0)
  | 13 => (1, 0, 0, 14, 0)
  | 14 => (46, 9, 5, 17, 0)
  | 17 => (0, 1, 0, 18, 0)
  | 18 => (0, 2, 0, 19, 0)
  | 22 => (53, 0, 0, 23, 0)
  | _ => (99, 0, 0, 0, 0)
def tX8_sum (pc : Nat) : zI := if pc < 23 then tmX8_sum pc else (99, 0, 0, 0, 0)
theorem tkX8_sum : z_tab RX8 wsX8_sum 3 (some .int) cX8_sum 23 tX8_sum := z_tab_of (tm := tmX8_sum) (by decide +kernel)
theorem sX8_sum_0 (lv : zL) (st : List Value) (w : zW) (nx K : Nat → zL → List Value → zW → Prop) (Rt : Option Value → zW → Prop) : z_st1 (tX8_sum 0) 0 lv st w nx K Rt = (z_li lv 1 (fun x => nx 1 lv (.int x :: st) w)) := id rfl
theorem sX8_sum_1 (lv : zL) (st : List Value) (w : zW) (nx K : Nat → zL → List Value → zW → Prop) (Rt : Option Value → zW → Prop) : z_st1 (tX8_sum 1) 1 lv st w nx K Rt = (z_li lv 2 (fun x => nx 2 lv (.int x :: st) w)) := id rfl
theorem sX8_sum_2 (lv : zL) (st : List Value) (w : zW) (nx K : Nat → zL → List Value → zW → Prop) (Rt : Option Value → zW → Prop) : z_st1 (tX8_sum 2) 2 lv st w nx K Rt = (nx 4 lv (.int (8 : Int32) :: st) w) := id rfl
theorem sX8_sum_7 (lv : zL) (st : List Value) (w : zW) (nx K : Nat → zL → List Value → zW → Prop) (Rt : Option Value → zW → Prop) : z_st1 (tX8_sum 7) 7 lv st w nx K Rt = (z_1i st (fun x r => (¬ x = 0 → nx 13 lv r w) ∧ (x = 0 → nx 10 lv r w))) := id rfl
theorem sX8_sum_10 (lv : zL) (st : List Value) (w : zW) (nx K : Nat → zL → List Value → zW → Prop) (Rt : Option Value → zW → Prop) : z_st1 (tX8_sum 10) 10 lv st w nx K Rt = (nx 12 lv (.int (-4 : Int32) :: st) w) := id rfl
theorem sX8_sum_12 (lv : zL) (st : List Value) (w : zW) (nx K : Nat → zL → List Value → zW → Prop) (Rt : Option Value → zW → Prop) : z_st1 (tX8_sum 12) 12 lv st w nx K Rt = (z_e1 st (fun x => Rt (some (.int x)) w)) := id rfl
theorem sX8_sum_13 (lv : zL) (st : List Value) (w : zW) (nx K : Nat → zL → List Value → zW → Prop) (Rt : Option Value → zW → Prop) : z_st1 (tX8_sum 13) 13 lv st w nx K Rt = (z_la lv 0 (fun x => nx 14 lv (.ref x :: st) w)) := id rfl
theorem sX8_sum_14 (lv : zL) (st : List Value) (w : zW) (nx K : Nat → zL → List Value → zW → Prop) (Rt : Option Value → zW → Prop) : z_st1 (tX8_sum 14) 14 lv st w nx K Rt = (z_1a st (fun x r => z_ob w x 9 (fun fs => z_fl fs 5 (fun u => nx 17 lv (u :: r) w)))) := id rfl
theorem sX8_sum_17 (lv : zL) (st : List Value) (w : zW) (nx K : Nat → zL → List Value → zW → Prop) (Rt : Option Value → zW → Prop) : z_st1 (tX8_sum 17) 17 lv st w nx K Rt = (z_li lv 1 (fun x => nx 18 lv (.int x :: st) w)) := id rfl
theorem sX8_sum_18 (lv : zL) (st : List Value) (w : zW) (nx K : Nat → zL → List Value → zW → Prop) (Rt : Option Value → zW → Prop) : z_st1 (tX8_sum 18) 18 lv st w nx K Rt = (z_li lv 2 (fun x => nx 19 lv (.int x :: st) w)) := id rfl
theorem sX8_sum_22 (lv : zL) (st : List Value) (w : zW) (nx K : Nat → zL → List Value → zW → Prop) (Rt : Option Value → zW → Prop) : z_st1 (tX8_sum 22) 22 lv st w nx K Rt = (z_e1 st (fun x => Rt (some (.int x)) w)) := id rfl
theorem sX8_sum_4 (lv : zL) (st : List Value) (w : zW) (nx K : Nat → zL → List Value → zW → Prop) (Rt : Option Value → zW → Prop) : z_st1 (tX8_sum 4) 4 lv st w nx K Rt = K 4 lv st w := id rfl
theorem sX8_sum_19 (lv : zL) (st : List Value) (w : zW) (nx K : Nat → zL → List Value → zW → Prop) (Rt : Option Value → zW → Prop) : z_st1 (tX8_sum 19) 19 lv st w nx K Rt = K 19 lv st w := id rfl
theorem dX8_sum_4 : decode cX8_sum 4 = .ok (.invokestatic 134, 3) := by decide +kernel
theorem dX8_sum_19 : decode cX8_sum 19 = .ok (.invokevirtual 137, 3) := by decide +kernel

def tmX8_exit (pc : Nat) : zI := match pc with
  | 0 => (0, 1, 0, 1, 0)
  | 1 => (36, 29, 0, 4, 0)
  | 4 => (0, 1, 0, 5, 0)
  | 5 => (6, 0, 0, 6, 1)
  | 6 => (44, 29, 0, 9, 0)
  | 9 => (0, 2, 0, 10, 0)
  | 10 => (36, 29, 0, 13, 0)
  | 13 => (0, 2, 0, 14, 0)
  | 14 => (6, 0, 0, 15, 3)
  | 15 => (44, 29, 0, 18, 0)
  | 18 => (0, 3, 0, 19, 0)
  | 19 => (36, 29, 0, 22, 0)
  | 22 => (0, 3, 0, 23, 0)
  | 23 => (6, 0, 0, 26, 1000)
  | 26 => (45, 32, 0, 29, 0)
  | 29 => (6, 0, 0, 31, (-4))
  | 31 => (53, 0, 0, 32, 0)
  | 32 => (0, 1, 0, 33, 0)
  | 33 => (35, 43, 0, 36, 0)
  | 36 => (1, 0, 0, 37, 0)
  | 37 => (46, 9, 6, 40, 0)
  | 40 => (33, 47, 0, 43, 0)
  | 43 => (1, 0, 0, 44, 0)
  | 44 => (46, 9, 7, 47, 0)
  | 47 => (4, 4, 0, 49, 0)
  | 49 => (1, 4, 0, 51, 0)
  | 51 => (0, 2, 0, 52, 0)
  | 52 => (0, 3, 0, 53, 0)
  | 56 => (6, 0, 0, 57, 1)
  | 57 => (53, 0, 0, 58, 0)
  | _ => (99, 0, 0, 0, 0)
def tX8_exit (pc : Nat) : zI := if pc < 58 then tmX8_exit pc else (99, 0, 0, 0, 0)
theorem tkX8_exit : z_tab RX8 wsX8_exit 5 (some .int) cX8_exit 58 tX8_exit := z_tab_of (tm := tmX8_exit) (by decide +kernel)
theorem sX8_exit_0 (lv : zL) (st : List Value) (w : zW) (nx K : Nat → zL → List Value → zW → Prop) (Rt : Option Value → zW → Prop) : z_st1 (tX8_exit 0) 0 lv st w nx K Rt = (z_li lv 1 (fun x => nx 1 lv (.int x :: st) w)) := id rfl
theorem sX8_exit_1 (lv : zL) (st : List Value) (w : zW) (nx K : Nat → zL → List Value → zW → Prop) (Rt : Option Value → zW → Prop) : z_st1 (tX8_exit 1) 1 lv st w nx K Rt = (z_1i st (fun x r => (x < 0 → nx 29 lv r w) ∧ (¬ x < 0 → nx 4 lv r w))) := id rfl
theorem sX8_exit_4 (lv : zL) (st : List Value) (w : zW) (nx K : Nat → zL → List Value → zW → Prop) (Rt : Option Value → zW → Prop) : z_st1 (tX8_exit 4) 4 lv st w nx K Rt = (z_li lv 1 (fun x => nx 5 lv (.int x :: st) w)) := id rfl
theorem sX8_exit_5 (lv : zL) (st : List Value) (w : zW) (nx K : Nat → zL → List Value → zW → Prop) (Rt : Option Value → zW → Prop) : z_st1 (tX8_exit 5) 5 lv st w nx K Rt = (nx 6 lv (.int (1 : Int32) :: st) w) := id rfl
theorem sX8_exit_6 (lv : zL) (st : List Value) (w : zW) (nx K : Nat → zL → List Value → zW → Prop) (Rt : Option Value → zW → Prop) : z_st1 (tX8_exit 6) 6 lv st w nx K Rt = (z_2i st (fun x y r => (y < x → nx 29 lv r w) ∧ (¬ y < x → nx 9 lv r w))) := id rfl
theorem sX8_exit_9 (lv : zL) (st : List Value) (w : zW) (nx K : Nat → zL → List Value → zW → Prop) (Rt : Option Value → zW → Prop) : z_st1 (tX8_exit 9) 9 lv st w nx K Rt = (z_li lv 2 (fun x => nx 10 lv (.int x :: st) w)) := id rfl
theorem sX8_exit_10 (lv : zL) (st : List Value) (w : zW) (nx K : Nat → zL → List Value → zW → Prop) (Rt : Option Value → zW → Prop) : z_st1 (tX8_exit 10) 10 lv st w nx K Rt = (z_1i st (fun x r => (x < 0 → nx 29 lv r w) ∧ (¬ x < 0 → nx 13 lv r w))) := id rfl
theorem sX8_exit_13 (lv : zL) (st : List Value) (w : zW) (nx K : Nat → zL → List Value → zW → Prop) (Rt : Option Value → zW → Prop) : z_st1 (tX8_exit 13) 13 lv st w nx K Rt = (z_li lv 2 (fun x => nx 14 lv (.int x :: st) w)) := id rfl
theorem sX8_exit_14 (lv : zL) (st : List Value) (w : zW) (nx K : Nat → zL → List Value → zW → Prop) (Rt : Option Value → zW → Prop) : z_st1 (tX8_exit 14) 14 lv st w nx K Rt = (nx 15 lv (.int (3 : Int32) :: st) w) := id rfl
theorem sX8_exit_15 (lv : zL) (st : List Value) (w : zW) (nx K : Nat → zL → List Value → zW → Prop) (Rt : Option Value → zW → Prop) : z_st1 (tX8_exit 15) 15 lv st w nx K Rt = (z_2i st (fun x y r => (y < x → nx 29 lv r w) ∧ (¬ y < x → nx 18 lv r w))) := id rfl
theorem sX8_exit_18 (lv : zL) (st : List Value) (w : zW) (nx K : Nat → zL → List Value → zW → Prop) (Rt : Option Value → zW → Prop) : z_st1 (tX8_exit 18) 18 lv st w nx K Rt = (z_li lv 3 (fun x => nx 19 lv (.int x :: st) w)) := id rfl
theorem sX8_exit_19 (lv : zL) (st : List Value) (w : zW) (nx K : Nat → zL → List Value → zW → Prop) (Rt : Option Value → zW → Prop) : z_st1 (tX8_exit 19) 19 lv st w nx K Rt = (z_1i st (fun x r => (x < 0 → nx 29 lv r w) ∧ (¬ x < 0 → nx 22 lv r w))) := id rfl
theorem sX8_exit_22 (lv : zL) (st : List Value) (w : zW) (nx K : Nat → zL → List Value → zW → Prop) (Rt : Option Value → zW → Prop) : z_st1 (tX8_exit 22) 22 lv st w nx K Rt = (z_li lv 3 (fun x => nx 23 lv (.int x :: st) w)) := id rfl
theorem sX8_exit_23 (lv : zL) (st : List Value) (w : zW) (nx K : Nat → zL → List Value → zW → Prop) (Rt : Option Value → zW → Prop) : z_st1 (tX8_exit 23) 23 lv st w nx K Rt = (nx 26 lv (.int (1000 : Int32) :: st) w) := id rfl
theorem sX8_exit_26 (lv : zL) (st : List Value) (w : zW) (nx K : Nat → zL → List Value → zW → Prop) (Rt : Option Value → zW → Prop) : z_st1 (tX8_exit 26) 26 lv st w nx K Rt = (z_2i st (fun x y r => (x ≤ y → nx 32 lv r w) ∧ (¬ x ≤ y → nx 29 lv r w))) := id rfl
theorem sX8_exit_29 (lv : zL) (st : List Value) (w : zW) (nx K : Nat → zL → List Value → zW → Prop) (Rt : Option Value → zW → Prop) : z_st1 (tX8_exit 29) 29 lv st w nx K Rt = (nx 31 lv (.int (-4 : Int32) :: st) w) := id rfl
theorem sX8_exit_31 (lv : zL) (st : List Value) (w : zW) (nx K : Nat → zL → List Value → zW → Prop) (Rt : Option Value → zW → Prop) : z_st1 (tX8_exit 31) 31 lv st w nx K Rt = (z_e1 st (fun x => Rt (some (.int x)) w)) := id rfl
theorem sX8_exit_32 (lv : zL) (st : List Value) (w : zW) (nx K : Nat → zL → List Value → zW → Prop) (Rt : Option Value → zW → Prop) : z_st1 (tX8_exit 32) 32 lv st w nx K Rt = (z_li lv 1 (fun x => nx 33 lv (.int x :: st) w)) := id rfl
theorem sX8_exit_33 (lv : zL) (st : List Value) (w : zW) (nx K : Nat → zL → List Value → zW → Prop) (Rt : Option Value → zW → Prop) : z_st1 (tX8_exit 33) 33 lv st w nx K Rt = (z_1i st (fun x r => (¬ x = 0 → nx 43 lv r w) ∧ (x = 0 → nx 36 lv r w))) := id rfl
theorem sX8_exit_36 (lv : zL) (st : List Value) (w : zW) (nx K : Nat → zL → List Value → zW → Prop) (Rt : Option Value → zW → Prop) : z_st1 (tX8_exit 36) 36 lv st w nx K Rt = (z_la lv 0 (fun x => nx 37 lv (.ref x :: st) w)) := id rfl
theorem sX8_exit_37 (lv : zL) (st : List Value) (w : zW) (nx K : Nat → zL → List Value → zW → Prop) (Rt : Option Value → zW → Prop) : z_st1 (tX8_exit 37) 37 lv st w nx K Rt = (z_1a st (fun x r => z_ob w x 9 (fun fs => z_fl fs 6 (fun u => nx 40 lv (u :: r) w)))) := id rfl
theorem sX8_exit_40 (lv : zL) (st : List Value) (w : zW) (nx K : Nat → zL → List Value → zW → Prop) (Rt : Option Value → zW → Prop) : z_st1 (tX8_exit 40) 40 lv st w nx K Rt = (nx 47 lv st w) := id rfl
theorem sX8_exit_43 (lv : zL) (st : List Value) (w : zW) (nx K : Nat → zL → List Value → zW → Prop) (Rt : Option Value → zW → Prop) : z_st1 (tX8_exit 43) 43 lv st w nx K Rt = (z_la lv 0 (fun x => nx 44 lv (.ref x :: st) w)) := id rfl
theorem sX8_exit_44 (lv : zL) (st : List Value) (w : zW) (nx K : Nat → zL → List Value → zW → Prop) (Rt : Option Value → zW → Prop) : z_st1 (tX8_exit 44) 44 lv st w nx K Rt = (z_1a st (fun x r => z_ob w x 9 (fun fs => z_fl fs 7 (fun u => nx 47 lv (u :: r) w)))) := id rfl
theorem sX8_exit_47 (lv : zL) (st : List Value) (w : zW) (nx K : Nat → zL → List Value → zW → Prop) (Rt : Option Value → zW → Prop) : z_st1 (tX8_exit 47) 47 lv st w nx K Rt = (z_1a st (fun x r => z_ok1 lv 4 = true ∧ nx 49 (lv.set 4 (some (.ref x))) r w)) := id rfl
theorem sX8_exit_49 (lv : zL) (st : List Value) (w : zW) (nx K : Nat → zL → List Value → zW → Prop) (Rt : Option Value → zW → Prop) : z_st1 (tX8_exit 49) 49 lv st w nx K Rt = (z_la lv 4 (fun x => nx 51 lv (.ref x :: st) w)) := id rfl
theorem sX8_exit_51 (lv : zL) (st : List Value) (w : zW) (nx K : Nat → zL → List Value → zW → Prop) (Rt : Option Value → zW → Prop) : z_st1 (tX8_exit 51) 51 lv st w nx K Rt = (z_li lv 2 (fun x => nx 52 lv (.int x :: st) w)) := id rfl
theorem sX8_exit_52 (lv : zL) (st : List Value) (w : zW) (nx K : Nat → zL → List Value → zW → Prop) (Rt : Option Value → zW → Prop) : z_st1 (tX8_exit 52) 52 lv st w nx K Rt = (z_li lv 3 (fun x => nx 53 lv (.int x :: st) w)) := id rfl
theorem sX8_exit_56 (lv : zL) (st : List Value) (w : zW) (nx K : Nat → zL → List Value → zW → Prop) (Rt : Option Value → zW → Prop) : z_st1 (tX8_exit 56) 56 lv st w nx K Rt = (nx 57 lv (.int (1 : Int32) :: st) w) := id rfl
theorem sX8_exit_57 (lv : zL) (st : List Value) (w : zW) (nx K : Nat → zL → List Value → zW → Prop) (Rt : Option Value → zW → Prop) : z_st1 (tX8_exit 57) 57 lv st w nx K Rt = (z_e1 st (fun x => Rt (some (.int x)) w)) := id rfl
theorem sX8_exit_53 (lv : zL) (st : List Value) (w : zW) (nx K : Nat → zL → List Value → zW → Prop) (Rt : Option Value → zW → Prop) : z_st1 (tX8_exit 53) 53 lv st w nx K Rt = K 53 lv st w := id rfl
theorem dX8_exit_53 : decode cX8_exit 53 = .ok (.invokevirtual 140, 3) := by decide +kernel

def tmX8_begin (pc : Nat) : zI := match pc with
  | 0 => (1, 0, 0, 1, 0)
  | 1 => (46, 9, 13, 4, 0)
  | 4 => (6, 0, 0, 5, 1)
  | 5 => (41, 11, 0, 8, 0)
  | 8 => (6, 0, 0, 10, (-5))
  | 10 => (53, 0, 0, 11, 0)
  | 11 => (1, 0, 0, 12, 0)
  | 12 => (6, 0, 0, 13, 1)
  | 13 => (47, 9, 13, 16, 0)
  | 16 => (1, 0, 0, 17, 0)
  | 17 => (6, 0, 0, 18, 0)
  | 18 => (47, 9, 10, 21, 0)
  | 21 => (1, 0, 0, 22, 0)
  | 22 => (6, 0, 0, 23, (-1))
  | 23 => (47, 9, 15, 26, 0)
  | 26 => (6, 0, 0, 27, 1)
  | 27 => (53, 0, 0, 28, 0)
  | _ => (99, 0, 0, 0, 0)
def tX8_begin (pc : Nat) : zI := if pc < 28 then tmX8_begin pc else (99, 0, 0, 0, 0)
theorem tkX8_begin : z_tab RX8 wsX8_begin 1 (some .int) cX8_begin 28 tX8_begin := z_tab_of (tm := tmX8_begin) (by decide +kernel)
theorem sX8_begin_0 (lv : zL) (st : List Value) (w : zW) (nx K : Nat → zL → List Value → zW → Prop) (Rt : Option Value → zW → Prop) : z_st1 (tX8_begin 0) 0 lv st w nx K Rt = (z_la lv 0 (fun x => nx 1 lv (.ref x :: st) w)) := id rfl
theorem sX8_begin_1 (lv : zL) (st : List Value) (w : zW) (nx K : Nat → zL → List Value → zW → Prop) (Rt : Option Value → zW → Prop) : z_st1 (tX8_begin 1) 1 lv st w nx K Rt = (z_1a st (fun x r => z_ob w x 9 (fun fs => z_fl fs 13 (fun u => nx 4 lv (u :: r) w)))) := id rfl
theorem sX8_begin_4 (lv : zL) (st : List Value) (w : zW) (nx K : Nat → zL → List Value → zW → Prop) (Rt : Option Value → zW → Prop) : z_st1 (tX8_begin 4) 4 lv st w nx K Rt = (nx 5 lv (.int (1 : Int32) :: st) w) := id rfl
theorem sX8_begin_5 (lv : zL) (st : List Value) (w : zW) (nx K : Nat → zL → List Value → zW → Prop) (Rt : Option Value → zW → Prop) : z_st1 (tX8_begin 5) 5 lv st w nx K Rt = (z_2i st (fun x y r => (¬ x = y → nx 11 lv r w) ∧ (x = y → nx 8 lv r w))) := id rfl
theorem sX8_begin_8 (lv : zL) (st : List Value) (w : zW) (nx K : Nat → zL → List Value → zW → Prop) (Rt : Option Value → zW → Prop) : z_st1 (tX8_begin 8) 8 lv st w nx K Rt = (nx 10 lv (.int (-5 : Int32) :: st) w) := id rfl
theorem sX8_begin_10 (lv : zL) (st : List Value) (w : zW) (nx K : Nat → zL → List Value → zW → Prop) (Rt : Option Value → zW → Prop) : z_st1 (tX8_begin 10) 10 lv st w nx K Rt = (z_e1 st (fun x => Rt (some (.int x)) w)) := id rfl
theorem sX8_begin_11 (lv : zL) (st : List Value) (w : zW) (nx K : Nat → zL → List Value → zW → Prop) (Rt : Option Value → zW → Prop) : z_st1 (tX8_begin 11) 11 lv st w nx K Rt = (z_la lv 0 (fun x => nx 12 lv (.ref x :: st) w)) := id rfl
theorem sX8_begin_12 (lv : zL) (st : List Value) (w : zW) (nx K : Nat → zL → List Value → zW → Prop) (Rt : Option Value → zW → Prop) : z_st1 (tX8_begin 12) 12 lv st w nx K Rt = (nx 13 lv (.int (1 : Int32) :: st) w) := id rfl
theorem sX8_begin_13 (lv : zL) (st : List Value) (w : zW) (nx K : Nat → zL → List Value → zW → Prop) (Rt : Option Value → zW → Prop) : z_st1 (tX8_begin 13) 13 lv st w nx K Rt = (z_ia st (fun x i r => z_ob w x 9 (fun fs => 13 < fs.length ∧ nx 16 lv r (z_up w x (.inr (9, fs.set 13 (.int i))))))) := id rfl
theorem sX8_begin_16 (lv : zL) (st : List Value) (w : zW) (nx K : Nat → zL → List Value → zW → Prop) (Rt : Option Value → zW → Prop) : z_st1 (tX8_begin 16) 16 lv st w nx K Rt = (z_la lv 0 (fun x => nx 17 lv (.ref x :: st) w)) := id rfl
theorem sX8_begin_17 (lv : zL) (st : List Value) (w : zW) (nx K : Nat → zL → List Value → zW → Prop) (Rt : Option Value → zW → Prop) : z_st1 (tX8_begin 17) 17 lv st w nx K Rt = (nx 18 lv (.int (0 : Int32) :: st) w) := id rfl
theorem sX8_begin_18 (lv : zL) (st : List Value) (w : zW) (nx K : Nat → zL → List Value → zW → Prop) (Rt : Option Value → zW → Prop) : z_st1 (tX8_begin 18) 18 lv st w nx K Rt = (z_ia st (fun x i r => z_ob w x 9 (fun fs => 10 < fs.length ∧ nx 21 lv r (z_up w x (.inr (9, fs.set 10 (.int i))))))) := id rfl
theorem sX8_begin_21 (lv : zL) (st : List Value) (w : zW) (nx K : Nat → zL → List Value → zW → Prop) (Rt : Option Value → zW → Prop) : z_st1 (tX8_begin 21) 21 lv st w nx K Rt = (z_la lv 0 (fun x => nx 22 lv (.ref x :: st) w)) := id rfl
theorem sX8_begin_22 (lv : zL) (st : List Value) (w : zW) (nx K : Nat → zL → List Value → zW → Prop) (Rt : Option Value → zW → Prop) : z_st1 (tX8_begin 22) 22 lv st w nx K Rt = (nx 23 lv (.int (-1 : Int32) :: st) w) := id rfl
theorem sX8_begin_23 (lv : zL) (st : List Value) (w : zW) (nx K : Nat → zL → List Value → zW → Prop) (Rt : Option Value → zW → Prop) : z_st1 (tX8_begin 23) 23 lv st w nx K Rt = (z_ia st (fun x i r => z_ob w x 9 (fun fs => 15 < fs.length ∧ nx 26 lv r (z_up w x (.inr (9, fs.set 15 (.int i))))))) := id rfl
theorem sX8_begin_26 (lv : zL) (st : List Value) (w : zW) (nx K : Nat → zL → List Value → zW → Prop) (Rt : Option Value → zW → Prop) : z_st1 (tX8_begin 26) 26 lv st w nx K Rt = (nx 27 lv (.int (1 : Int32) :: st) w) := id rfl
theorem sX8_begin_27 (lv : zL) (st : List Value) (w : zW) (nx K : Nat → zL → List Value → zW → Prop) (Rt : Option Value → zW → Prop) : z_st1 (tX8_begin 27) 27 lv st w nx K Rt = (z_e1 st (fun x => Rt (some (.int x)) w)) := id rfl

def tmX8_release (pc : Nat) : zI := match pc with
  | 0 => (1, 0, 0, 1, 0)
  | 1 => (0, 1, 0, 2, 0)
  | 5 => (35, 11, 0, 8, 0)
  | 8 => (6, 0, 0, 10, (-2))
  | 10 => (53, 0, 0, 11, 0)
  | 11 => (1, 0, 0, 12, 0)
  | 12 => (46, 9, 13, 15, 0)
  | 15 => (6, 0, 0, 16, 1)
  | 16 => (40, 22, 0, 19, 0)
  | 19 => (6, 0, 0, 21, (-5))
  | 21 => (53, 0, 0, 22, 0)
  | 22 => (1, 0, 0, 23, 0)
  | 23 => (46, 9, 10, 26, 0)
  | 26 => (1, 0, 0, 27, 0)
  | 27 => (46, 9, 9, 30, 0)
  | 30 => (52, 0, 0, 31, 0)
  | 31 => (42, 36, 0, 34, 0)
  | 34 => (6, 0, 0, 35, (-1))
  | 35 => (53, 0, 0, 36, 0)
  | 36 => (1, 0, 0, 37, 0)
  | 37 => (46, 9, 9, 40, 0)
  | 40 => (1, 0, 0, 41, 0)
  | 41 => (46, 9, 10, 44, 0)
  | 44 => (0, 1, 0, 45, 0)
  | 45 => (49, 0, 0, 46, 0)
  | 46 => (1, 0, 0, 47, 0)
  | 47 => (29, 0, 0, 48, 0)
  | 48 => (46, 9, 10, 51, 0)
  | 51 => (6, 0, 0, 52, 1)
  | 52 => (8, 0, 0, 53, 0)
  | 53 => (47, 9, 10, 56, 0)
  | 56 => (1, 0, 0, 57, 0)
  | 57 => (46, 9, 10, 60, 0)
  | 60 => (53, 0, 0, 61, 0)
  | _ => (99, 0, 0, 0, 0)
def tX8_release (pc : Nat) : zI := if pc < 61 then tmX8_release pc else (99, 0, 0, 0, 0)
theorem tkX8_release : z_tab RX8 wsX8_release 2 (some .int) cX8_release 61 tX8_release := z_tab_of (tm := tmX8_release) (by decide +kernel)
theorem sX8_release_0 (lv : zL) (st : List Value) (w : zW) (nx K : Nat → zL → List Value → zW → Prop) (Rt : Option Value → zW → Prop) : z_st1 (tX8_release 0) 0 lv st w nx K Rt = (z_la lv 0 (fun x => nx 1 lv (.ref x :: st) w)) := id rfl
theorem sX8_release_1 (lv : zL) (st : List Value) (w : zW) (nx K : Nat → zL → List Value → zW → Prop) (Rt : Option Value → zW → Prop) : z_st1 (tX8_release 1) 1 lv st w nx K Rt = (z_li lv 1 (fun x => nx 2 lv (.int x :: st) w)) := id rfl
theorem sX8_release_5 (lv : zL) (st : List Value) (w : zW) (nx K : Nat → zL → List Value → zW → Prop) (Rt : Option Value → zW → Prop) : z_st1 (tX8_release 5) 5 lv st w nx K Rt = (z_1i st (fun x r => (¬ x = 0 → nx 11 lv r w) ∧ (x = 0 → nx 8 lv r w))) := id rfl
theorem sX8_release_8 (lv : zL) (st : List Value) (w : zW) (nx K : Nat → zL → List Value → zW → Prop) (Rt : Option Value → zW → Prop) : z_st1 (tX8_release 8) 8 lv st w nx K Rt = (nx 10 lv (.int (-2 : Int32) :: st) w) := id rfl
theorem sX8_release_10 (lv : zL) (st : List Value) (w : zW) (nx K : Nat → zL → List Value → zW → Prop) (Rt : Option Value → zW → Prop) : z_st1 (tX8_release 10) 10 lv st w nx K Rt = (z_e1 st (fun x => Rt (some (.int x)) w)) := id rfl
theorem sX8_release_11 (lv : zL) (st : List Value) (w : zW) (nx K : Nat → zL → List Value → zW → Prop) (Rt : Option Value → zW → Prop) : z_st1 (tX8_release 11) 11 lv st w nx K Rt = (z_la lv 0 (fun x => nx 12 lv (.ref x :: st) w)) := id rfl
theorem sX8_release_12 (lv : zL) (st : List Value) (w : zW) (nx K : Nat → zL → List Value → zW → Prop) (Rt : Option Value → zW → Prop) : z_st1 (tX8_release 12) 12 lv st w nx K Rt = (z_1a st (fun x r => z_ob w x 9 (fun fs => z_fl fs 13 (fun u => nx 15 lv (u :: r) w)))) := id rfl
theorem sX8_release_15 (lv : zL) (st : List Value) (w : zW) (nx K : Nat → zL → List Value → zW → Prop) (Rt : Option Value → zW → Prop) : z_st1 (tX8_release 15) 15 lv st w nx K Rt = (nx 16 lv (.int (1 : Int32) :: st) w) := id rfl
theorem sX8_release_16 (lv : zL) (st : List Value) (w : zW) (nx K : Nat → zL → List Value → zW → Prop) (Rt : Option Value → zW → Prop) : z_st1 (tX8_release 16) 16 lv st w nx K Rt = (z_2i st (fun x y r => (x = y → nx 22 lv r w) ∧ (¬ x = y → nx 19 lv r w))) := id rfl
theorem sX8_release_19 (lv : zL) (st : List Value) (w : zW) (nx K : Nat → zL → List Value → zW → Prop) (Rt : Option Value → zW → Prop) : z_st1 (tX8_release 19) 19 lv st w nx K Rt = (nx 21 lv (.int (-5 : Int32) :: st) w) := id rfl
theorem sX8_release_21 (lv : zL) (st : List Value) (w : zW) (nx K : Nat → zL → List Value → zW → Prop) (Rt : Option Value → zW → Prop) : z_st1 (tX8_release 21) 21 lv st w nx K Rt = (z_e1 st (fun x => Rt (some (.int x)) w)) := id rfl
theorem sX8_release_22 (lv : zL) (st : List Value) (w : zW) (nx K : Nat → zL → List Value → zW → Prop) (Rt : Option Value → zW → Prop) : z_st1 (tX8_release 22) 22 lv st w nx K Rt = (z_la lv 0 (fun x => nx 23 lv (.ref x :: st) w)) := id rfl
theorem sX8_release_23 (lv : zL) (st : List Value) (w : zW) (nx K : Nat → zL → List Value → zW → Prop) (Rt : Option Value → zW → Prop) : z_st1 (tX8_release 23) 23 lv st w nx K Rt = (z_1a st (fun x r => z_ob w x 9 (fun fs => z_fl fs 10 (fun u => nx 26 lv (u :: r) w)))) := id rfl
theorem sX8_release_26 (lv : zL) (st : List Value) (w : zW) (nx K : Nat → zL → List Value → zW → Prop) (Rt : Option Value → zW → Prop) : z_st1 (tX8_release 26) 26 lv st w nx K Rt = (z_la lv 0 (fun x => nx 27 lv (.ref x :: st) w)) := id rfl
theorem sX8_release_27 (lv : zL) (st : List Value) (w : zW) (nx K : Nat → zL → List Value → zW → Prop) (Rt : Option Value → zW → Prop) : z_st1 (tX8_release 27) 27 lv st w nx K Rt = (z_1a st (fun x r => z_ob w x 9 (fun fs => z_fl fs 9 (fun u => nx 30 lv (u :: r) w)))) := id rfl
theorem sX8_release_30 (lv : zL) (st : List Value) (w : zW) (nx K : Nat → zL → List Value → zW → Prop) (Rt : Option Value → zW → Prop) : z_st1 (tX8_release 30) 30 lv st w nx K Rt = (z_1a st (fun x r => z_ar0 w x (fun m _ => nx 31 lv (.int (Int32.ofNat m) :: r) w))) := id rfl
theorem sX8_release_31 (lv : zL) (st : List Value) (w : zW) (nx K : Nat → zL → List Value → zW → Prop) (Rt : Option Value → zW → Prop) : z_st1 (tX8_release 31) 31 lv st w nx K Rt = (z_2i st (fun x y r => (x < y → nx 36 lv r w) ∧ (¬ x < y → nx 34 lv r w))) := id rfl
theorem sX8_release_34 (lv : zL) (st : List Value) (w : zW) (nx K : Nat → zL → List Value → zW → Prop) (Rt : Option Value → zW → Prop) : z_st1 (tX8_release 34) 34 lv st w nx K Rt = (nx 35 lv (.int (-1 : Int32) :: st) w) := id rfl
theorem sX8_release_35 (lv : zL) (st : List Value) (w : zW) (nx K : Nat → zL → List Value → zW → Prop) (Rt : Option Value → zW → Prop) : z_st1 (tX8_release 35) 35 lv st w nx K Rt = (z_e1 st (fun x => Rt (some (.int x)) w)) := id rfl
theorem sX8_release_36 (lv : zL) (st : List Value) (w : zW) (nx K : Nat → zL → List Value → zW → Prop) (Rt : Option Value → zW → Prop) : z_st1 (tX8_release 36) 36 lv st w nx K Rt = (z_la lv 0 (fun x => nx 37 lv (.ref x :: st) w)) := id rfl
theorem sX8_release_37 (lv : zL) (st : List Value) (w : zW) (nx K : Nat → zL → List Value → zW → Prop) (Rt : Option Value → zW → Prop) : z_st1 (tX8_release 37) 37 lv st w nx K Rt = (z_1a st (fun x r => z_ob w x 9 (fun fs => z_fl fs 9 (fun u => nx 40 lv (u :: r) w)))) := id rfl
theorem sX8_release_40 (lv : zL) (st : List Value) (w : zW) (nx K : Nat → zL → List Value → zW → Prop) (Rt : Option Value → zW → Prop) : z_st1 (tX8_release 40) 40 lv st w nx K Rt = (z_la lv 0 (fun x => nx 41 lv (.ref x :: st) w)) := id rfl
theorem sX8_release_41 (lv : zL) (st : List Value) (w : zW) (nx K : Nat → zL → List Value → zW → Prop) (Rt : Option Value → zW → Prop) : z_st1 (tX8_release 41) 41 lv st w nx K Rt = (z_1a st (fun x r => z_ob w x 9 (fun fs => z_fl fs 10 (fun u => nx 44 lv (u :: r) w)))) := id rfl
theorem sX8_release_44 (lv : zL) (st : List Value) (w : zW) (nx K : Nat → zL → List Value → zW → Prop) (Rt : Option Value → zW → Prop) : z_st1 (tX8_release 44) 44 lv st w nx K Rt = (z_li lv 1 (fun x => nx 45 lv (.int x :: st) w)) := id rfl
theorem sX8_release_45 (lv : zL) (st : List Value) (w : zW) (nx K : Nat → zL → List Value → zW → Prop) (Rt : Option Value → zW → Prop) : z_st1 (tX8_release 45) 45 lv st w nx K Rt = (z_iia st (fun x i u r => z_ar0 w x (fun m g => vp_in i m ∧ nx 46 lv r (z_up w x (.inl (0, m, .inl (upd g i.toNatClampNeg u))))))) := id rfl
theorem sX8_release_46 (lv : zL) (st : List Value) (w : zW) (nx K : Nat → zL → List Value → zW → Prop) (Rt : Option Value → zW → Prop) : z_st1 (tX8_release 46) 46 lv st w nx K Rt = (z_la lv 0 (fun x => nx 47 lv (.ref x :: st) w)) := id rfl
theorem sX8_release_47 (lv : zL) (st : List Value) (w : zW) (nx K : Nat → zL → List Value → zW → Prop) (Rt : Option Value → zW → Prop) : z_st1 (tX8_release 47) 47 lv st w nx K Rt = (z_d1 st (fun x r => nx 48 lv (x :: x :: r) w)) := id rfl
theorem sX8_release_48 (lv : zL) (st : List Value) (w : zW) (nx K : Nat → zL → List Value → zW → Prop) (Rt : Option Value → zW → Prop) : z_st1 (tX8_release 48) 48 lv st w nx K Rt = (z_1a st (fun x r => z_ob w x 9 (fun fs => z_fl fs 10 (fun u => nx 51 lv (u :: r) w)))) := id rfl
theorem sX8_release_51 (lv : zL) (st : List Value) (w : zW) (nx K : Nat → zL → List Value → zW → Prop) (Rt : Option Value → zW → Prop) : z_st1 (tX8_release 51) 51 lv st w nx K Rt = (nx 52 lv (.int (1 : Int32) :: st) w) := id rfl
theorem sX8_release_52 (lv : zL) (st : List Value) (w : zW) (nx K : Nat → zL → List Value → zW → Prop) (Rt : Option Value → zW → Prop) : z_st1 (tX8_release 52) 52 lv st w nx K Rt = (z_2i st (fun x y r => nx 53 lv (.int (x + y) :: r) w)) := id rfl
theorem sX8_release_53 (lv : zL) (st : List Value) (w : zW) (nx K : Nat → zL → List Value → zW → Prop) (Rt : Option Value → zW → Prop) : z_st1 (tX8_release 53) 53 lv st w nx K Rt = (z_ia st (fun x i r => z_ob w x 9 (fun fs => 10 < fs.length ∧ nx 56 lv r (z_up w x (.inr (9, fs.set 10 (.int i))))))) := id rfl
theorem sX8_release_56 (lv : zL) (st : List Value) (w : zW) (nx K : Nat → zL → List Value → zW → Prop) (Rt : Option Value → zW → Prop) : z_st1 (tX8_release 56) 56 lv st w nx K Rt = (z_la lv 0 (fun x => nx 57 lv (.ref x :: st) w)) := id rfl
theorem sX8_release_57 (lv : zL) (st : List Value) (w : zW) (nx K : Nat → zL → List Value → zW → Prop) (Rt : Option Value → zW → Prop) : z_st1 (tX8_release 57) 57 lv st w nx K Rt = (z_1a st (fun x r => z_ob w x 9 (fun fs => z_fl fs 10 (fun u => nx 60 lv (u :: r) w)))) := id rfl
theorem sX8_release_60 (lv : zL) (st : List Value) (w : zW) (nx K : Nat → zL → List Value → zW → Prop) (Rt : Option Value → zW → Prop) : z_st1 (tX8_release 60) 60 lv st w nx K Rt = (z_e1 st (fun x => Rt (some (.int x)) w)) := id rfl
theorem sX8_release_2 (lv : zL) (st : List Value) (w : zW) (nx K : Nat → zL → List Value → zW → Prop) (Rt : Option Value → zW → Prop) : z_st1 (tX8_release 2) 2 lv st w nx K Rt = K 2 lv st w := id rfl
theorem dX8_release_2 : decode cX8_release 2 = .ok (.invokevirtual 121, 3) := by decide +kernel

def tmX8_sort (pc : Nat) : zI := match pc with
  | 0 => (1, 0, 0, 1, 0)
  | 1 => (46, 9, 13, 4, 0)
  | 4 => (6, 0, 0, 5, 1)
  | 5 => (40, 11, 0, 8, 0)
  | 8 => (6, 0, 0, 10, (-5))
  | 10 => (53, 0, 0, 11, 0)
  | 11 => (1, 0, 0, 12, 0)
  | 12 => (46, 9, 18, 15, 0)
  | 18 => (1, 0, 0, 19, 0)
  | 22 => (3, 2, 0, 23, 0)
  | 23 => (0, 2, 0, 24, 0)
  | 24 => (6, 0, 0, 25, (-1))
  | 25 => (41, 81, 0, 28, 0)
  | 28 => (1, 0, 0, 29, 0)
  | 29 => (46, 9, 3, 32, 0)
  | 32 => (0, 1, 0, 33, 0)
  | 36 => (1, 0, 0, 37, 0)
  | 37 => (46, 9, 18, 40, 0)
  | 40 => (1, 0, 0, 41, 0)
  | 41 => (46, 9, 3, 44, 0)
  | 44 => (1, 0, 0, 45, 0)
  | 45 => (46, 9, 11, 48, 0)
  | 51 => (47, 8, 0, 54, 0)
  | 54 => (1, 0, 0, 55, 0)
  | 55 => (46, 9, 18, 58, 0)
  | 58 => (1, 0, 0, 59, 0)
  | 59 => (46, 9, 3, 62, 0)
  | 62 => (1, 0, 0, 63, 0)
  | 63 => (46, 9, 12, 66, 0)
  | 69 => (47, 8, 1, 72, 0)
  | 72 => (1, 0, 0, 73, 0)
  | 76 => (1, 0, 0, 77, 0)
  | 80 => (3, 2, 0, 81, 0)
  | 81 => (0, 2, 0, 82, 0)
  | 82 => (6, 0, 0, 83, (-1))
  | 83 => (40, 101, 0, 86, 0)
  | 86 => (1, 0, 0, 87, 0)
  | 87 => (0, 2, 0, 88, 0)
  | 88 => (47, 9, 16, 91, 0)
  | 94 => (29, 0, 0, 95, 0)
  | 101 => (1, 0, 0, 102, 0)
  | 102 => (46, 9, 17, 105, 0)
  | 105 => (4, 3, 0, 106, 0)
  | 106 => (1, 0, 0, 107, 0)
  | 107 => (1, 0, 0, 108, 0)
  | 108 => (46, 9, 18, 111, 0)
  | 111 => (61, 9, 17, 114, 0)
  | 114 => (1, 0, 0, 115, 0)
  | 115 => (1, 3, 0, 116, 0)
  | 116 => (61, 9, 18, 119, 0)
  | 119 => (1, 0, 0, 120, 0)
  | 120 => (6, 0, 0, 121, 0)
  | 121 => (47, 9, 10, 124, 0)
  | 124 => (1, 0, 0, 125, 0)
  | 128 => (53, 0, 0, 129, 0)
  | _ => (99, 0, 0, 0, 0)
def tX8_sort (pc : Nat) : zI := if pc < 129 then tmX8_sort pc else (99, 0, 0, 0, 0)
theorem tkX8_sort : z_tab RX8 wsX8_sort 4 (some .int) cX8_sort 129 tX8_sort := z_tab_of (tm := tmX8_sort) (by decide +kernel)
theorem sX8_sort_0 (lv : zL) (st : List Value) (w : zW) (nx K : Nat → zL → List Value → zW → Prop) (Rt : Option Value → zW → Prop) : z_st1 (tX8_sort 0) 0 lv st w nx K Rt = (z_la lv 0 (fun x => nx 1 lv (.ref x :: st) w)) := id rfl
theorem sX8_sort_1 (lv : zL) (st : List Value) (w : zW) (nx K : Nat → zL → List Value → zW → Prop) (Rt : Option Value → zW → Prop) : z_st1 (tX8_sort 1) 1 lv st w nx K Rt = (z_1a st (fun x r => z_ob w x 9 (fun fs => z_fl fs 13 (fun u => nx 4 lv (u :: r) w)))) := id rfl
theorem sX8_sort_4 (lv : zL) (st : List Value) (w : zW) (nx K : Nat → zL → List Value → zW → Prop) (Rt : Option Value → zW → Prop) : z_st1 (tX8_sort 4) 4 lv st w nx K Rt = (nx 5 lv (.int (1 : Int32) :: st) w) := id rfl
theorem sX8_sort_5 (lv : zL) (st : List Value) (w : zW) (nx K : Nat → zL → List Value → zW → Prop) (Rt : Option Value → zW → Prop) : z_st1 (tX8_sort 5) 5 lv st w nx K Rt = (z_2i st (fun x y r => (x = y → nx 11 lv r w) ∧ (¬ x = y → nx 8 lv r w))) := id rfl
theorem sX8_sort_8 (lv : zL) (st : List Value) (w : zW) (nx K : Nat → zL → List Value → zW → Prop) (Rt : Option Value → zW → Prop) : z_st1 (tX8_sort 8) 8 lv st w nx K Rt = (nx 10 lv (.int (-5 : Int32) :: st) w) := id rfl
theorem sX8_sort_10 (lv : zL) (st : List Value) (w : zW) (nx K : Nat → zL → List Value → zW → Prop) (Rt : Option Value → zW → Prop) : z_st1 (tX8_sort 10) 10 lv st w nx K Rt = (z_e1 st (fun x => Rt (some (.int x)) w)) := id rfl
theorem sX8_sort_11 (lv : zL) (st : List Value) (w : zW) (nx K : Nat → zL → List Value → zW → Prop) (Rt : Option Value → zW → Prop) : z_st1 (tX8_sort 11) 11 lv st w nx K Rt = (z_la lv 0 (fun x => nx 12 lv (.ref x :: st) w)) := id rfl
theorem sX8_sort_12 (lv : zL) (st : List Value) (w : zW) (nx K : Nat → zL → List Value → zW → Prop) (Rt : Option Value → zW → Prop) : z_st1 (tX8_sort 12) 12 lv st w nx K Rt = (z_1a st (fun x r => z_ob w x 9 (fun fs => z_fl fs 18 (fun u => nx 15 lv (u :: r) w)))) := id rfl
theorem sX8_sort_18 (lv : zL) (st : List Value) (w : zW) (nx K : Nat → zL → List Value → zW → Prop) (Rt : Option Value → zW → Prop) : z_st1 (tX8_sort 18) 18 lv st w nx K Rt = (z_la lv 0 (fun x => nx 19 lv (.ref x :: st) w)) := id rfl
theorem sX8_sort_22 (lv : zL) (st : List Value) (w : zW) (nx K : Nat → zL → List Value → zW → Prop) (Rt : Option Value → zW → Prop) : z_st1 (tX8_sort 22) 22 lv st w nx K Rt = (z_1i st (fun x r => z_ok1 lv 2 = true ∧ nx 23 (lv.set 2 (some (.int x))) r w)) := id rfl
theorem sX8_sort_23 (lv : zL) (st : List Value) (w : zW) (nx K : Nat → zL → List Value → zW → Prop) (Rt : Option Value → zW → Prop) : z_st1 (tX8_sort 23) 23 lv st w nx K Rt = (z_li lv 2 (fun x => nx 24 lv (.int x :: st) w)) := id rfl
theorem sX8_sort_24 (lv : zL) (st : List Value) (w : zW) (nx K : Nat → zL → List Value → zW → Prop) (Rt : Option Value → zW → Prop) : z_st1 (tX8_sort 24) 24 lv st w nx K Rt = (nx 25 lv (.int (-1 : Int32) :: st) w) := id rfl
theorem sX8_sort_25 (lv : zL) (st : List Value) (w : zW) (nx K : Nat → zL → List Value → zW → Prop) (Rt : Option Value → zW → Prop) : z_st1 (tX8_sort 25) 25 lv st w nx K Rt = (z_2i st (fun x y r => (¬ x = y → nx 81 lv r w) ∧ (x = y → nx 28 lv r w))) := id rfl
theorem sX8_sort_28 (lv : zL) (st : List Value) (w : zW) (nx K : Nat → zL → List Value → zW → Prop) (Rt : Option Value → zW → Prop) : z_st1 (tX8_sort 28) 28 lv st w nx K Rt = (z_la lv 0 (fun x => nx 29 lv (.ref x :: st) w)) := id rfl
theorem sX8_sort_29 (lv : zL) (st : List Value) (w : zW) (nx K : Nat → zL → List Value → zW → Prop) (Rt : Option Value → zW → Prop) : z_st1 (tX8_sort 29) 29 lv st w nx K Rt = (z_1a st (fun x r => z_ob w x 9 (fun fs => z_fl fs 3 (fun u => nx 32 lv (u :: r) w)))) := id rfl
theorem sX8_sort_32 (lv : zL) (st : List Value) (w : zW) (nx K : Nat → zL → List Value → zW → Prop) (Rt : Option Value → zW → Prop) : z_st1 (tX8_sort 32) 32 lv st w nx K Rt = (z_li lv 1 (fun x => nx 33 lv (.int x :: st) w)) := id rfl
theorem sX8_sort_36 (lv : zL) (st : List Value) (w : zW) (nx K : Nat → zL → List Value → zW → Prop) (Rt : Option Value → zW → Prop) : z_st1 (tX8_sort 36) 36 lv st w nx K Rt = (z_la lv 0 (fun x => nx 37 lv (.ref x :: st) w)) := id rfl
theorem sX8_sort_37 (lv : zL) (st : List Value) (w : zW) (nx K : Nat → zL → List Value → zW → Prop) (Rt : Option Value → zW → Prop) : z_st1 (tX8_sort 37) 37 lv st w nx K Rt = (z_1a st (fun x r => z_ob w x 9 (fun fs => z_fl fs 18 (fun u => nx 40 lv (u :: r) w)))) := id rfl
theorem sX8_sort_40 (lv : zL) (st : List Value) (w : zW) (nx K : Nat → zL → List Value → zW → Prop) (Rt : Option Value → zW → Prop) : z_st1 (tX8_sort 40) 40 lv st w nx K Rt = (z_la lv 0 (fun x => nx 41 lv (.ref x :: st) w)) := id rfl
theorem sX8_sort_41 (lv : zL) (st : List Value) (w : zW) (nx K : Nat → zL → List Value → zW → Prop) (Rt : Option Value → zW → Prop) : z_st1 (tX8_sort 41) 41 lv st w nx K Rt = (z_1a st (fun x r => z_ob w x 9 (fun fs => z_fl fs 3 (fun u => nx 44 lv (u :: r) w)))) := id rfl
theorem sX8_sort_44 (lv : zL) (st : List Value) (w : zW) (nx K : Nat → zL → List Value → zW → Prop) (Rt : Option Value → zW → Prop) : z_st1 (tX8_sort 44) 44 lv st w nx K Rt = (z_la lv 0 (fun x => nx 45 lv (.ref x :: st) w)) := id rfl
theorem sX8_sort_45 (lv : zL) (st : List Value) (w : zW) (nx K : Nat → zL → List Value → zW → Prop) (Rt : Option Value → zW → Prop) : z_st1 (tX8_sort 45) 45 lv st w nx K Rt = (z_1a st (fun x r => z_ob w x 9 (fun fs => z_fl fs 11 (fun u => nx 48 lv (u :: r) w)))) := id rfl
theorem sX8_sort_51 (lv : zL) (st : List Value) (w : zW) (nx K : Nat → zL → List Value → zW → Prop) (Rt : Option Value → zW → Prop) : z_st1 (tX8_sort 51) 51 lv st w nx K Rt = (z_ia st (fun x i r => z_ob w x 8 (fun fs => 0 < fs.length ∧ nx 54 lv r (z_up w x (.inr (8, fs.set 0 (.int i))))))) := id rfl
theorem sX8_sort_54 (lv : zL) (st : List Value) (w : zW) (nx K : Nat → zL → List Value → zW → Prop) (Rt : Option Value → zW → Prop) : z_st1 (tX8_sort 54) 54 lv st w nx K Rt = (z_la lv 0 (fun x => nx 55 lv (.ref x :: st) w)) := id rfl
theorem sX8_sort_55 (lv : zL) (st : List Value) (w : zW) (nx K : Nat → zL → List Value → zW → Prop) (Rt : Option Value → zW → Prop) : z_st1 (tX8_sort 55) 55 lv st w nx K Rt = (z_1a st (fun x r => z_ob w x 9 (fun fs => z_fl fs 18 (fun u => nx 58 lv (u :: r) w)))) := id rfl
theorem sX8_sort_58 (lv : zL) (st : List Value) (w : zW) (nx K : Nat → zL → List Value → zW → Prop) (Rt : Option Value → zW → Prop) : z_st1 (tX8_sort 58) 58 lv st w nx K Rt = (z_la lv 0 (fun x => nx 59 lv (.ref x :: st) w)) := id rfl
theorem sX8_sort_59 (lv : zL) (st : List Value) (w : zW) (nx K : Nat → zL → List Value → zW → Prop) (Rt : Option Value → zW → Prop) : z_st1 (tX8_sort 59) 59 lv st w nx K Rt = (z_1a st (fun x r => z_ob w x 9 (fun fs => z_fl fs 3 (fun u => nx 62 lv (u :: r) w)))) := id rfl
theorem sX8_sort_62 (lv : zL) (st : List Value) (w : zW) (nx K : Nat → zL → List Value → zW → Prop) (Rt : Option Value → zW → Prop) : z_st1 (tX8_sort 62) 62 lv st w nx K Rt = (z_la lv 0 (fun x => nx 63 lv (.ref x :: st) w)) := id rfl
theorem sX8_sort_63 (lv : zL) (st : List Value) (w : zW) (nx K : Nat → zL → List Value → zW → Prop) (Rt : Option Value → zW → Prop) : z_st1 (tX8_sort 63) 63 lv st w nx K Rt = (z_1a st (fun x r => z_ob w x 9 (fun fs => z_fl fs 12 (fun u => nx 66 lv (u :: r) w)))) := id rfl
theorem sX8_sort_69 (lv : zL) (st : List Value) (w : zW) (nx K : Nat → zL → List Value → zW → Prop) (Rt : Option Value → zW → Prop) : z_st1 (tX8_sort 69) 69 lv st w nx K Rt = (z_ia st (fun x i r => z_ob w x 8 (fun fs => 1 < fs.length ∧ nx 72 lv r (z_up w x (.inr (8, fs.set 1 (.int i))))))) := id rfl
theorem sX8_sort_72 (lv : zL) (st : List Value) (w : zW) (nx K : Nat → zL → List Value → zW → Prop) (Rt : Option Value → zW → Prop) : z_st1 (tX8_sort 72) 72 lv st w nx K Rt = (z_la lv 0 (fun x => nx 73 lv (.ref x :: st) w)) := id rfl
theorem sX8_sort_76 (lv : zL) (st : List Value) (w : zW) (nx K : Nat → zL → List Value → zW → Prop) (Rt : Option Value → zW → Prop) : z_st1 (tX8_sort 76) 76 lv st w nx K Rt = (z_la lv 0 (fun x => nx 77 lv (.ref x :: st) w)) := id rfl
theorem sX8_sort_80 (lv : zL) (st : List Value) (w : zW) (nx K : Nat → zL → List Value → zW → Prop) (Rt : Option Value → zW → Prop) : z_st1 (tX8_sort 80) 80 lv st w nx K Rt = (z_1i st (fun x r => z_ok1 lv 2 = true ∧ nx 81 (lv.set 2 (some (.int x))) r w)) := id rfl
theorem sX8_sort_81 (lv : zL) (st : List Value) (w : zW) (nx K : Nat → zL → List Value → zW → Prop) (Rt : Option Value → zW → Prop) : z_st1 (tX8_sort 81) 81 lv st w nx K Rt = (z_li lv 2 (fun x => nx 82 lv (.int x :: st) w)) := id rfl
theorem sX8_sort_82 (lv : zL) (st : List Value) (w : zW) (nx K : Nat → zL → List Value → zW → Prop) (Rt : Option Value → zW → Prop) : z_st1 (tX8_sort 82) 82 lv st w nx K Rt = (nx 83 lv (.int (-1 : Int32) :: st) w) := id rfl
theorem sX8_sort_83 (lv : zL) (st : List Value) (w : zW) (nx K : Nat → zL → List Value → zW → Prop) (Rt : Option Value → zW → Prop) : z_st1 (tX8_sort 83) 83 lv st w nx K Rt = (z_2i st (fun x y r => (x = y → nx 101 lv r w) ∧ (¬ x = y → nx 86 lv r w))) := id rfl
theorem sX8_sort_86 (lv : zL) (st : List Value) (w : zW) (nx K : Nat → zL → List Value → zW → Prop) (Rt : Option Value → zW → Prop) : z_st1 (tX8_sort 86) 86 lv st w nx K Rt = (z_la lv 0 (fun x => nx 87 lv (.ref x :: st) w)) := id rfl
theorem sX8_sort_87 (lv : zL) (st : List Value) (w : zW) (nx K : Nat → zL → List Value → zW → Prop) (Rt : Option Value → zW → Prop) : z_st1 (tX8_sort 87) 87 lv st w nx K Rt = (z_li lv 2 (fun x => nx 88 lv (.int x :: st) w)) := id rfl
theorem sX8_sort_88 (lv : zL) (st : List Value) (w : zW) (nx K : Nat → zL → List Value → zW → Prop) (Rt : Option Value → zW → Prop) : z_st1 (tX8_sort 88) 88 lv st w nx K Rt = (z_ia st (fun x i r => z_ob w x 9 (fun fs => 16 < fs.length ∧ nx 91 lv r (z_up w x (.inr (9, fs.set 16 (.int i))))))) := id rfl
theorem sX8_sort_94 (lv : zL) (st : List Value) (w : zW) (nx K : Nat → zL → List Value → zW → Prop) (Rt : Option Value → zW → Prop) : z_st1 (tX8_sort 94) 94 lv st w nx K Rt = (z_d1 st (fun x r => nx 95 lv (x :: x :: r) w)) := id rfl
theorem sX8_sort_101 (lv : zL) (st : List Value) (w : zW) (nx K : Nat → zL → List Value → zW → Prop) (Rt : Option Value → zW → Prop) : z_st1 (tX8_sort 101) 101 lv st w nx K Rt = (z_la lv 0 (fun x => nx 102 lv (.ref x :: st) w)) := id rfl
theorem sX8_sort_102 (lv : zL) (st : List Value) (w : zW) (nx K : Nat → zL → List Value → zW → Prop) (Rt : Option Value → zW → Prop) : z_st1 (tX8_sort 102) 102 lv st w nx K Rt = (z_1a st (fun x r => z_ob w x 9 (fun fs => z_fl fs 17 (fun u => nx 105 lv (u :: r) w)))) := id rfl
theorem sX8_sort_105 (lv : zL) (st : List Value) (w : zW) (nx K : Nat → zL → List Value → zW → Prop) (Rt : Option Value → zW → Prop) : z_st1 (tX8_sort 105) 105 lv st w nx K Rt = (z_1a st (fun x r => z_ok1 lv 3 = true ∧ nx 106 (lv.set 3 (some (.ref x))) r w)) := id rfl
theorem sX8_sort_106 (lv : zL) (st : List Value) (w : zW) (nx K : Nat → zL → List Value → zW → Prop) (Rt : Option Value → zW → Prop) : z_st1 (tX8_sort 106) 106 lv st w nx K Rt = (z_la lv 0 (fun x => nx 107 lv (.ref x :: st) w)) := id rfl
theorem sX8_sort_107 (lv : zL) (st : List Value) (w : zW) (nx K : Nat → zL → List Value → zW → Prop) (Rt : Option Value → zW → Prop) : z_st1 (tX8_sort 107) 107 lv st w nx K Rt = (z_la lv 0 (fun x => nx 108 lv (.ref x :: st) w)) := id rfl
theorem sX8_sort_108 (lv : zL) (st : List Value) (w : zW) (nx K : Nat → zL → List Value → zW → Prop) (Rt : Option Value → zW → Prop) : z_st1 (tX8_sort 108) 108 lv st w nx K Rt = (z_1a st (fun x r => z_ob w x 9 (fun fs => z_fl fs 18 (fun u => nx 111 lv (u :: r) w)))) := id rfl
theorem sX8_sort_111 (lv : zL) (st : List Value) (w : zW) (nx K : Nat → zL → List Value → zW → Prop) (Rt : Option Value → zW → Prop) : z_st1 (tX8_sort 111) 111 lv st w nx K Rt = (z_aa st (fun x y r => z_ob w x 9 (fun fs => 17 < fs.length ∧ nx 114 lv r (z_up w x (.inr (9, fs.set 17 (.ref y))))))) := id rfl
theorem sX8_sort_114 (lv : zL) (st : List Value) (w : zW) (nx K : Nat → zL → List Value → zW → Prop) (Rt : Option Value → zW → Prop) : z_st1 (tX8_sort 114) 114 lv st w nx K Rt = (z_la lv 0 (fun x => nx 115 lv (.ref x :: st) w)) := id rfl
theorem sX8_sort_115 (lv : zL) (st : List Value) (w : zW) (nx K : Nat → zL → List Value → zW → Prop) (Rt : Option Value → zW → Prop) : z_st1 (tX8_sort 115) 115 lv st w nx K Rt = (z_la lv 3 (fun x => nx 116 lv (.ref x :: st) w)) := id rfl
theorem sX8_sort_116 (lv : zL) (st : List Value) (w : zW) (nx K : Nat → zL → List Value → zW → Prop) (Rt : Option Value → zW → Prop) : z_st1 (tX8_sort 116) 116 lv st w nx K Rt = (z_aa st (fun x y r => z_ob w x 9 (fun fs => 18 < fs.length ∧ nx 119 lv r (z_up w x (.inr (9, fs.set 18 (.ref y))))))) := id rfl
theorem sX8_sort_119 (lv : zL) (st : List Value) (w : zW) (nx K : Nat → zL → List Value → zW → Prop) (Rt : Option Value → zW → Prop) : z_st1 (tX8_sort 119) 119 lv st w nx K Rt = (z_la lv 0 (fun x => nx 120 lv (.ref x :: st) w)) := id rfl
theorem sX8_sort_120 (lv : zL) (st : List Value) (w : zW) (nx K : Nat → zL → List Value → zW → Prop) (Rt : Option Value → zW → Prop) : z_st1 (tX8_sort 120) 120 lv st w nx K Rt = (nx 121 lv (.int (0 : Int32) :: st) w) := id rfl
theorem sX8_sort_121 (lv : zL) (st : List Value) (w : zW) (nx K : Nat → zL → List Value → zW → Prop) (Rt : Option Value → zW → Prop) : z_st1 (tX8_sort 121) 121 lv st w nx K Rt = (z_ia st (fun x i r => z_ob w x 9 (fun fs => 10 < fs.length ∧ nx 124 lv r (z_up w x (.inr (9, fs.set 10 (.int i))))))) := id rfl
theorem sX8_sort_124 (lv : zL) (st : List Value) (w : zW) (nx K : Nat → zL → List Value → zW → Prop) (Rt : Option Value → zW → Prop) : z_st1 (tX8_sort 124) 124 lv st w nx K Rt = (z_la lv 0 (fun x => nx 125 lv (.ref x :: st) w)) := id rfl
theorem sX8_sort_128 (lv : zL) (st : List Value) (w : zW) (nx K : Nat → zL → List Value → zW → Prop) (Rt : Option Value → zW → Prop) : z_st1 (tX8_sort 128) 128 lv st w nx K Rt = (z_e1 st (fun x => Rt (some (.int x)) w)) := id rfl
theorem sX8_sort_15 (lv : zL) (st : List Value) (w : zW) (nx K : Nat → zL → List Value → zW → Prop) (Rt : Option Value → zW → Prop) : z_st1 (tX8_sort 15) 15 lv st w nx K Rt = K 15 lv st w := id rfl
theorem sX8_sort_19 (lv : zL) (st : List Value) (w : zW) (nx K : Nat → zL → List Value → zW → Prop) (Rt : Option Value → zW → Prop) : z_st1 (tX8_sort 19) 19 lv st w nx K Rt = K 19 lv st w := id rfl
theorem sX8_sort_33 (lv : zL) (st : List Value) (w : zW) (nx K : Nat → zL → List Value → zW → Prop) (Rt : Option Value → zW → Prop) : z_st1 (tX8_sort 33) 33 lv st w nx K Rt = K 33 lv st w := id rfl
theorem sX8_sort_48 (lv : zL) (st : List Value) (w : zW) (nx K : Nat → zL → List Value → zW → Prop) (Rt : Option Value → zW → Prop) : z_st1 (tX8_sort 48) 48 lv st w nx K Rt = K 48 lv st w := id rfl
theorem sX8_sort_66 (lv : zL) (st : List Value) (w : zW) (nx K : Nat → zL → List Value → zW → Prop) (Rt : Option Value → zW → Prop) : z_st1 (tX8_sort 66) 66 lv st w nx K Rt = K 66 lv st w := id rfl
theorem sX8_sort_73 (lv : zL) (st : List Value) (w : zW) (nx K : Nat → zL → List Value → zW → Prop) (Rt : Option Value → zW → Prop) : z_st1 (tX8_sort 73) 73 lv st w nx K Rt = K 73 lv st w := id rfl
theorem sX8_sort_77 (lv : zL) (st : List Value) (w : zW) (nx K : Nat → zL → List Value → zW → Prop) (Rt : Option Value → zW → Prop) : z_st1 (tX8_sort 77) 77 lv st w nx K Rt = K 77 lv st w := id rfl
theorem sX8_sort_91 (lv : zL) (st : List Value) (w : zW) (nx K : Nat → zL → List Value → zW → Prop) (Rt : Option Value → zW → Prop) : z_st1 (tX8_sort 91) 91 lv st w nx K Rt = K 91 lv st w := id rfl
theorem sX8_sort_95 (lv : zL) (st : List Value) (w : zW) (nx K : Nat → zL → List Value → zW → Prop) (Rt : Option Value → zW → Prop) : z_st1 (tX8_sort 95) 95 lv st w nx K Rt = K 95 lv st w := id rfl
theorem sX8_sort_97 (lv : zL) (st : List Value) (w : zW) (nx K : Nat → zL → List Value → zW → Prop) (Rt : Option Value → zW → Prop) : z_st1 (tX8_sort 97) 97 lv st w nx K Rt = K 97 lv st w := id rfl
theorem sX8_sort_100 (lv : zL) (st : List Value) (w : zW) (nx K : Nat → zL → List Value → zW → Prop) (Rt : Option Value → zW → Prop) : z_st1 (tX8_sort 100) 100 lv st w nx K Rt = K 100 lv st w := id rfl
theorem sX8_sort_125 (lv : zL) (st : List Value) (w : zW) (nx K : Nat → zL → List Value → zW → Prop) (Rt : Option Value → zW → Prop) : z_st1 (tX8_sort 125) 125 lv st w nx K Rt = K 125 lv st w := id rfl
theorem dX8_sort_15 : decode cX8_sort 15 = .ok (.invokevirtual 146, 3) := by decide +kernel
theorem dX8_sort_19 : decode cX8_sort 19 = .ok (.invokevirtual 149, 3) := by decide +kernel
theorem dX8_sort_33 : decode cX8_sort 33 = .ok (.invokevirtual 152, 3) := by decide +kernel
theorem dX8_sort_48 : decode cX8_sort 48 = .ok (.invokevirtual 156, 3) := by decide +kernel
theorem dX8_sort_66 : decode cX8_sort 66 = .ok (.invokevirtual 162, 3) := by decide +kernel
theorem dX8_sort_73 : decode cX8_sort 73 = .ok (.invokevirtual 168, 3) := by decide +kernel
theorem dX8_sort_77 : decode cX8_sort 77 = .ok (.invokevirtual 171, 3) := by decide +kernel
theorem dX8_sort_91 : decode cX8_sort 91 = .ok (.new 177, 3) := by decide +kernel
theorem dX8_sort_95 : decode cX8_sort 95 = .ok (.ldc 179, 2) := by decide +kernel
theorem dX8_sort_97 : decode cX8_sort 97 = .ok (.invokespecial 181, 3) := by decide +kernel
theorem dX8_sort_100 : decode cX8_sort 100 = .ok (.athrow, 1) := by decide +kernel
theorem dX8_sort_125 : decode cX8_sort 125 = .ok (.invokevirtual 182, 3) := by decide +kernel

def tmX8_next (pc : Nat) : zI := match pc with
  | 0 => (1, 0, 0, 1, 0)
  | 1 => (46, 9, 13, 4, 0)
  | 4 => (6, 0, 0, 5, 2)
  | 5 => (40, 11, 0, 8, 0)
  | 8 => (6, 0, 0, 10, (-5))
  | 10 => (53, 0, 0, 11, 0)
  | 11 => (1, 0, 0, 12, 0)
  | 12 => (46, 9, 14, 15, 0)
  | 15 => (1, 0, 0, 16, 0)
  | 16 => (46, 9, 3, 19, 0)
  | 22 => (42, 37, 0, 25, 0)
  | 25 => (1, 0, 0, 26, 0)
  | 26 => (6, 0, 0, 27, (-1))
  | 27 => (47, 9, 15, 30, 0)
  | 30 => (1, 0, 0, 31, 0)
  | 31 => (6, 0, 0, 32, 0)
  | 32 => (47, 9, 13, 35, 0)
  | 35 => (6, 0, 0, 36, 0)
  | 36 => (53, 0, 0, 37, 0)
  | 37 => (1, 0, 0, 38, 0)
  | 38 => (1, 0, 0, 39, 0)
  | 39 => (46, 9, 3, 42, 0)
  | 42 => (1, 0, 0, 43, 0)
  | 43 => (46, 9, 14, 46, 0)
  | 49 => (47, 9, 15, 52, 0)
  | 52 => (1, 0, 0, 53, 0)
  | 53 => (29, 0, 0, 54, 0)
  | 54 => (46, 9, 14, 57, 0)
  | 57 => (6, 0, 0, 58, 1)
  | 58 => (8, 0, 0, 59, 0)
  | 59 => (47, 9, 14, 62, 0)
  | 62 => (1, 0, 0, 63, 0)
  | 63 => (46, 9, 1, 66, 0)
  | 66 => (1, 0, 0, 67, 0)
  | 67 => (46, 9, 15, 70, 0)
  | 73 => (53, 0, 0, 74, 0)
  | _ => (99, 0, 0, 0, 0)
def tX8_next (pc : Nat) : zI := if pc < 74 then tmX8_next pc else (99, 0, 0, 0, 0)
theorem tkX8_next : z_tab RX8 wsX8_next 1 (some .int) cX8_next 74 tX8_next := z_tab_of (tm := tmX8_next) (by decide +kernel)
theorem sX8_next_0 (lv : zL) (st : List Value) (w : zW) (nx K : Nat → zL → List Value → zW → Prop) (Rt : Option Value → zW → Prop) : z_st1 (tX8_next 0) 0 lv st w nx K Rt = (z_la lv 0 (fun x => nx 1 lv (.ref x :: st) w)) := id rfl
theorem sX8_next_1 (lv : zL) (st : List Value) (w : zW) (nx K : Nat → zL → List Value → zW → Prop) (Rt : Option Value → zW → Prop) : z_st1 (tX8_next 1) 1 lv st w nx K Rt = (z_1a st (fun x r => z_ob w x 9 (fun fs => z_fl fs 13 (fun u => nx 4 lv (u :: r) w)))) := id rfl
theorem sX8_next_4 (lv : zL) (st : List Value) (w : zW) (nx K : Nat → zL → List Value → zW → Prop) (Rt : Option Value → zW → Prop) : z_st1 (tX8_next 4) 4 lv st w nx K Rt = (nx 5 lv (.int (2 : Int32) :: st) w) := id rfl
theorem sX8_next_5 (lv : zL) (st : List Value) (w : zW) (nx K : Nat → zL → List Value → zW → Prop) (Rt : Option Value → zW → Prop) : z_st1 (tX8_next 5) 5 lv st w nx K Rt = (z_2i st (fun x y r => (x = y → nx 11 lv r w) ∧ (¬ x = y → nx 8 lv r w))) := id rfl
theorem sX8_next_8 (lv : zL) (st : List Value) (w : zW) (nx K : Nat → zL → List Value → zW → Prop) (Rt : Option Value → zW → Prop) : z_st1 (tX8_next 8) 8 lv st w nx K Rt = (nx 10 lv (.int (-5 : Int32) :: st) w) := id rfl
theorem sX8_next_10 (lv : zL) (st : List Value) (w : zW) (nx K : Nat → zL → List Value → zW → Prop) (Rt : Option Value → zW → Prop) : z_st1 (tX8_next 10) 10 lv st w nx K Rt = (z_e1 st (fun x => Rt (some (.int x)) w)) := id rfl
theorem sX8_next_11 (lv : zL) (st : List Value) (w : zW) (nx K : Nat → zL → List Value → zW → Prop) (Rt : Option Value → zW → Prop) : z_st1 (tX8_next 11) 11 lv st w nx K Rt = (z_la lv 0 (fun x => nx 12 lv (.ref x :: st) w)) := id rfl
theorem sX8_next_12 (lv : zL) (st : List Value) (w : zW) (nx K : Nat → zL → List Value → zW → Prop) (Rt : Option Value → zW → Prop) : z_st1 (tX8_next 12) 12 lv st w nx K Rt = (z_1a st (fun x r => z_ob w x 9 (fun fs => z_fl fs 14 (fun u => nx 15 lv (u :: r) w)))) := id rfl
theorem sX8_next_15 (lv : zL) (st : List Value) (w : zW) (nx K : Nat → zL → List Value → zW → Prop) (Rt : Option Value → zW → Prop) : z_st1 (tX8_next 15) 15 lv st w nx K Rt = (z_la lv 0 (fun x => nx 16 lv (.ref x :: st) w)) := id rfl
theorem sX8_next_16 (lv : zL) (st : List Value) (w : zW) (nx K : Nat → zL → List Value → zW → Prop) (Rt : Option Value → zW → Prop) : z_st1 (tX8_next 16) 16 lv st w nx K Rt = (z_1a st (fun x r => z_ob w x 9 (fun fs => z_fl fs 3 (fun u => nx 19 lv (u :: r) w)))) := id rfl
theorem sX8_next_22 (lv : zL) (st : List Value) (w : zW) (nx K : Nat → zL → List Value → zW → Prop) (Rt : Option Value → zW → Prop) : z_st1 (tX8_next 22) 22 lv st w nx K Rt = (z_2i st (fun x y r => (x < y → nx 37 lv r w) ∧ (¬ x < y → nx 25 lv r w))) := id rfl
theorem sX8_next_25 (lv : zL) (st : List Value) (w : zW) (nx K : Nat → zL → List Value → zW → Prop) (Rt : Option Value → zW → Prop) : z_st1 (tX8_next 25) 25 lv st w nx K Rt = (z_la lv 0 (fun x => nx 26 lv (.ref x :: st) w)) := id rfl
theorem sX8_next_26 (lv : zL) (st : List Value) (w : zW) (nx K : Nat → zL → List Value → zW → Prop) (Rt : Option Value → zW → Prop) : z_st1 (tX8_next 26) 26 lv st w nx K Rt = (nx 27 lv (.int (-1 : Int32) :: st) w) := id rfl
theorem sX8_next_27 (lv : zL) (st : List Value) (w : zW) (nx K : Nat → zL → List Value → zW → Prop) (Rt : Option Value → zW → Prop) : z_st1 (tX8_next 27) 27 lv st w nx K Rt = (z_ia st (fun x i r => z_ob w x 9 (fun fs => 15 < fs.length ∧ nx 30 lv r (z_up w x (.inr (9, fs.set 15 (.int i))))))) := id rfl
theorem sX8_next_30 (lv : zL) (st : List Value) (w : zW) (nx K : Nat → zL → List Value → zW → Prop) (Rt : Option Value → zW → Prop) : z_st1 (tX8_next 30) 30 lv st w nx K Rt = (z_la lv 0 (fun x => nx 31 lv (.ref x :: st) w)) := id rfl
theorem sX8_next_31 (lv : zL) (st : List Value) (w : zW) (nx K : Nat → zL → List Value → zW → Prop) (Rt : Option Value → zW → Prop) : z_st1 (tX8_next 31) 31 lv st w nx K Rt = (nx 32 lv (.int (0 : Int32) :: st) w) := id rfl
theorem sX8_next_32 (lv : zL) (st : List Value) (w : zW) (nx K : Nat → zL → List Value → zW → Prop) (Rt : Option Value → zW → Prop) : z_st1 (tX8_next 32) 32 lv st w nx K Rt = (z_ia st (fun x i r => z_ob w x 9 (fun fs => 13 < fs.length ∧ nx 35 lv r (z_up w x (.inr (9, fs.set 13 (.int i))))))) := id rfl
theorem sX8_next_35 (lv : zL) (st : List Value) (w : zW) (nx K : Nat → zL → List Value → zW → Prop) (Rt : Option Value → zW → Prop) : z_st1 (tX8_next 35) 35 lv st w nx K Rt = (nx 36 lv (.int (0 : Int32) :: st) w) := id rfl
theorem sX8_next_36 (lv : zL) (st : List Value) (w : zW) (nx K : Nat → zL → List Value → zW → Prop) (Rt : Option Value → zW → Prop) : z_st1 (tX8_next 36) 36 lv st w nx K Rt = (z_e1 st (fun x => Rt (some (.int x)) w)) := id rfl
theorem sX8_next_37 (lv : zL) (st : List Value) (w : zW) (nx K : Nat → zL → List Value → zW → Prop) (Rt : Option Value → zW → Prop) : z_st1 (tX8_next 37) 37 lv st w nx K Rt = (z_la lv 0 (fun x => nx 38 lv (.ref x :: st) w)) := id rfl
theorem sX8_next_38 (lv : zL) (st : List Value) (w : zW) (nx K : Nat → zL → List Value → zW → Prop) (Rt : Option Value → zW → Prop) : z_st1 (tX8_next 38) 38 lv st w nx K Rt = (z_la lv 0 (fun x => nx 39 lv (.ref x :: st) w)) := id rfl
theorem sX8_next_39 (lv : zL) (st : List Value) (w : zW) (nx K : Nat → zL → List Value → zW → Prop) (Rt : Option Value → zW → Prop) : z_st1 (tX8_next 39) 39 lv st w nx K Rt = (z_1a st (fun x r => z_ob w x 9 (fun fs => z_fl fs 3 (fun u => nx 42 lv (u :: r) w)))) := id rfl
theorem sX8_next_42 (lv : zL) (st : List Value) (w : zW) (nx K : Nat → zL → List Value → zW → Prop) (Rt : Option Value → zW → Prop) : z_st1 (tX8_next 42) 42 lv st w nx K Rt = (z_la lv 0 (fun x => nx 43 lv (.ref x :: st) w)) := id rfl
theorem sX8_next_43 (lv : zL) (st : List Value) (w : zW) (nx K : Nat → zL → List Value → zW → Prop) (Rt : Option Value → zW → Prop) : z_st1 (tX8_next 43) 43 lv st w nx K Rt = (z_1a st (fun x r => z_ob w x 9 (fun fs => z_fl fs 14 (fun u => nx 46 lv (u :: r) w)))) := id rfl
theorem sX8_next_49 (lv : zL) (st : List Value) (w : zW) (nx K : Nat → zL → List Value → zW → Prop) (Rt : Option Value → zW → Prop) : z_st1 (tX8_next 49) 49 lv st w nx K Rt = (z_ia st (fun x i r => z_ob w x 9 (fun fs => 15 < fs.length ∧ nx 52 lv r (z_up w x (.inr (9, fs.set 15 (.int i))))))) := id rfl
theorem sX8_next_52 (lv : zL) (st : List Value) (w : zW) (nx K : Nat → zL → List Value → zW → Prop) (Rt : Option Value → zW → Prop) : z_st1 (tX8_next 52) 52 lv st w nx K Rt = (z_la lv 0 (fun x => nx 53 lv (.ref x :: st) w)) := id rfl
theorem sX8_next_53 (lv : zL) (st : List Value) (w : zW) (nx K : Nat → zL → List Value → zW → Prop) (Rt : Option Value → zW → Prop) : z_st1 (tX8_next 53) 53 lv st w nx K Rt = (z_d1 st (fun x r => nx 54 lv (x :: x :: r) w)) := id rfl
theorem sX8_next_54 (lv : zL) (st : List Value) (w : zW) (nx K : Nat → zL → List Value → zW → Prop) (Rt : Option Value → zW → Prop) : z_st1 (tX8_next 54) 54 lv st w nx K Rt = (z_1a st (fun x r => z_ob w x 9 (fun fs => z_fl fs 14 (fun u => nx 57 lv (u :: r) w)))) := id rfl
theorem sX8_next_57 (lv : zL) (st : List Value) (w : zW) (nx K : Nat → zL → List Value → zW → Prop) (Rt : Option Value → zW → Prop) : z_st1 (tX8_next 57) 57 lv st w nx K Rt = (nx 58 lv (.int (1 : Int32) :: st) w) := id rfl
theorem sX8_next_58 (lv : zL) (st : List Value) (w : zW) (nx K : Nat → zL → List Value → zW → Prop) (Rt : Option Value → zW → Prop) : z_st1 (tX8_next 58) 58 lv st w nx K Rt = (z_2i st (fun x y r => nx 59 lv (.int (x + y) :: r) w)) := id rfl
theorem sX8_next_59 (lv : zL) (st : List Value) (w : zW) (nx K : Nat → zL → List Value → zW → Prop) (Rt : Option Value → zW → Prop) : z_st1 (tX8_next 59) 59 lv st w nx K Rt = (z_ia st (fun x i r => z_ob w x 9 (fun fs => 14 < fs.length ∧ nx 62 lv r (z_up w x (.inr (9, fs.set 14 (.int i))))))) := id rfl
theorem sX8_next_62 (lv : zL) (st : List Value) (w : zW) (nx K : Nat → zL → List Value → zW → Prop) (Rt : Option Value → zW → Prop) : z_st1 (tX8_next 62) 62 lv st w nx K Rt = (z_la lv 0 (fun x => nx 63 lv (.ref x :: st) w)) := id rfl
theorem sX8_next_63 (lv : zL) (st : List Value) (w : zW) (nx K : Nat → zL → List Value → zW → Prop) (Rt : Option Value → zW → Prop) : z_st1 (tX8_next 63) 63 lv st w nx K Rt = (z_1a st (fun x r => z_ob w x 9 (fun fs => z_fl fs 1 (fun u => nx 66 lv (u :: r) w)))) := id rfl
theorem sX8_next_66 (lv : zL) (st : List Value) (w : zW) (nx K : Nat → zL → List Value → zW → Prop) (Rt : Option Value → zW → Prop) : z_st1 (tX8_next 66) 66 lv st w nx K Rt = (z_la lv 0 (fun x => nx 67 lv (.ref x :: st) w)) := id rfl
theorem sX8_next_67 (lv : zL) (st : List Value) (w : zW) (nx K : Nat → zL → List Value → zW → Prop) (Rt : Option Value → zW → Prop) : z_st1 (tX8_next 67) 67 lv st w nx K Rt = (z_1a st (fun x r => z_ob w x 9 (fun fs => z_fl fs 15 (fun u => nx 70 lv (u :: r) w)))) := id rfl
theorem sX8_next_73 (lv : zL) (st : List Value) (w : zW) (nx K : Nat → zL → List Value → zW → Prop) (Rt : Option Value → zW → Prop) : z_st1 (tX8_next 73) 73 lv st w nx K Rt = (z_e1 st (fun x => Rt (some (.int x)) w)) := id rfl
theorem sX8_next_19 (lv : zL) (st : List Value) (w : zW) (nx K : Nat → zL → List Value → zW → Prop) (Rt : Option Value → zW → Prop) : z_st1 (tX8_next 19) 19 lv st w nx K Rt = K 19 lv st w := id rfl
theorem sX8_next_46 (lv : zL) (st : List Value) (w : zW) (nx K : Nat → zL → List Value → zW → Prop) (Rt : Option Value → zW → Prop) : z_st1 (tX8_next 46) 46 lv st w nx K Rt = K 46 lv st w := id rfl
theorem sX8_next_70 (lv : zL) (st : List Value) (w : zW) (nx K : Nat → zL → List Value → zW → Prop) (Rt : Option Value → zW → Prop) : z_st1 (tX8_next 70) 70 lv st w nx K Rt = K 70 lv st w := id rfl
theorem dX8_next_19 : decode cX8_next 19 = .ok (.invokevirtual 188, 3) := by decide +kernel
theorem dX8_next_46 : decode cX8_next 46 = .ok (.invokevirtual 189, 3) := by decide +kernel
theorem dX8_next_70 : decode cX8_next 70 = .ok (.invokevirtual 118, 3) := by decide +kernel

def tmX8_value (pc : Nat) : zI := match pc with
  | 0 => (1, 0, 0, 1, 0)
  | 1 => (46, 9, 15, 4, 0)
  | 4 => (6, 0, 0, 5, (-1))
  | 5 => (40, 27, 0, 8, 0)
  | 8 => (0, 1, 0, 9, 0)
  | 9 => (36, 27, 0, 12, 0)
  | 12 => (0, 1, 0, 13, 0)
  | 13 => (1, 0, 0, 14, 0)
  | 14 => (46, 9, 1, 17, 0)
  | 17 => (1, 0, 0, 18, 0)
  | 18 => (46, 9, 15, 21, 0)
  | 24 => (42, 29, 0, 27, 0)
  | 27 => (6, 0, 0, 28, (-1))
  | 28 => (53, 0, 0, 29, 0)
  | 29 => (1, 0, 0, 30, 0)
  | 30 => (46, 9, 1, 33, 0)
  | 33 => (1, 0, 0, 34, 0)
  | 34 => (46, 9, 15, 37, 0)
  | 37 => (0, 1, 0, 38, 0)
  | 41 => (53, 0, 0, 42, 0)
  | _ => (99, 0, 0, 0, 0)
def tX8_value (pc : Nat) : zI := if pc < 42 then tmX8_value pc else (99, 0, 0, 0, 0)
theorem tkX8_value : z_tab RX8 wsX8_value 2 (some .int) cX8_value 42 tX8_value := z_tab_of (tm := tmX8_value) (by decide +kernel)
theorem sX8_value_0 (lv : zL) (st : List Value) (w : zW) (nx K : Nat → zL → List Value → zW → Prop) (Rt : Option Value → zW → Prop) : z_st1 (tX8_value 0) 0 lv st w nx K Rt = (z_la lv 0 (fun x => nx 1 lv (.ref x :: st) w)) := id rfl
theorem sX8_value_1 (lv : zL) (st : List Value) (w : zW) (nx K : Nat → zL → List Value → zW → Prop) (Rt : Option Value → zW → Prop) : z_st1 (tX8_value 1) 1 lv st w nx K Rt = (z_1a st (fun x r => z_ob w x 9 (fun fs => z_fl fs 15 (fun u => nx 4 lv (u :: r) w)))) := id rfl
theorem sX8_value_4 (lv : zL) (st : List Value) (w : zW) (nx K : Nat → zL → List Value → zW → Prop) (Rt : Option Value → zW → Prop) : z_st1 (tX8_value 4) 4 lv st w nx K Rt = (nx 5 lv (.int (-1 : Int32) :: st) w) := id rfl
theorem sX8_value_5 (lv : zL) (st : List Value) (w : zW) (nx K : Nat → zL → List Value → zW → Prop) (Rt : Option Value → zW → Prop) : z_st1 (tX8_value 5) 5 lv st w nx K Rt = (z_2i st (fun x y r => (x = y → nx 27 lv r w) ∧ (¬ x = y → nx 8 lv r w))) := id rfl
theorem sX8_value_8 (lv : zL) (st : List Value) (w : zW) (nx K : Nat → zL → List Value → zW → Prop) (Rt : Option Value → zW → Prop) : z_st1 (tX8_value 8) 8 lv st w nx K Rt = (z_li lv 1 (fun x => nx 9 lv (.int x :: st) w)) := id rfl
theorem sX8_value_9 (lv : zL) (st : List Value) (w : zW) (nx K : Nat → zL → List Value → zW → Prop) (Rt : Option Value → zW → Prop) : z_st1 (tX8_value 9) 9 lv st w nx K Rt = (z_1i st (fun x r => (x < 0 → nx 27 lv r w) ∧ (¬ x < 0 → nx 12 lv r w))) := id rfl
theorem sX8_value_12 (lv : zL) (st : List Value) (w : zW) (nx K : Nat → zL → List Value → zW → Prop) (Rt : Option Value → zW → Prop) : z_st1 (tX8_value 12) 12 lv st w nx K Rt = (z_li lv 1 (fun x => nx 13 lv (.int x :: st) w)) := id rfl
theorem sX8_value_13 (lv : zL) (st : List Value) (w : zW) (nx K : Nat → zL → List Value → zW → Prop) (Rt : Option Value → zW → Prop) : z_st1 (tX8_value 13) 13 lv st w nx K Rt = (z_la lv 0 (fun x => nx 14 lv (.ref x :: st) w)) := id rfl
theorem sX8_value_14 (lv : zL) (st : List Value) (w : zW) (nx K : Nat → zL → List Value → zW → Prop) (Rt : Option Value → zW → Prop) : z_st1 (tX8_value 14) 14 lv st w nx K Rt = (z_1a st (fun x r => z_ob w x 9 (fun fs => z_fl fs 1 (fun u => nx 17 lv (u :: r) w)))) := id rfl
theorem sX8_value_17 (lv : zL) (st : List Value) (w : zW) (nx K : Nat → zL → List Value → zW → Prop) (Rt : Option Value → zW → Prop) : z_st1 (tX8_value 17) 17 lv st w nx K Rt = (z_la lv 0 (fun x => nx 18 lv (.ref x :: st) w)) := id rfl
theorem sX8_value_18 (lv : zL) (st : List Value) (w : zW) (nx K : Nat → zL → List Value → zW → Prop) (Rt : Option Value → zW → Prop) : z_st1 (tX8_value 18) 18 lv st w nx K Rt = (z_1a st (fun x r => z_ob w x 9 (fun fs => z_fl fs 15 (fun u => nx 21 lv (u :: r) w)))) := id rfl
theorem sX8_value_24 (lv : zL) (st : List Value) (w : zW) (nx K : Nat → zL → List Value → zW → Prop) (Rt : Option Value → zW → Prop) : z_st1 (tX8_value 24) 24 lv st w nx K Rt = (z_2i st (fun x y r => (x < y → nx 29 lv r w) ∧ (¬ x < y → nx 27 lv r w))) := id rfl
theorem sX8_value_27 (lv : zL) (st : List Value) (w : zW) (nx K : Nat → zL → List Value → zW → Prop) (Rt : Option Value → zW → Prop) : z_st1 (tX8_value 27) 27 lv st w nx K Rt = (nx 28 lv (.int (-1 : Int32) :: st) w) := id rfl
theorem sX8_value_28 (lv : zL) (st : List Value) (w : zW) (nx K : Nat → zL → List Value → zW → Prop) (Rt : Option Value → zW → Prop) : z_st1 (tX8_value 28) 28 lv st w nx K Rt = (z_e1 st (fun x => Rt (some (.int x)) w)) := id rfl
theorem sX8_value_29 (lv : zL) (st : List Value) (w : zW) (nx K : Nat → zL → List Value → zW → Prop) (Rt : Option Value → zW → Prop) : z_st1 (tX8_value 29) 29 lv st w nx K Rt = (z_la lv 0 (fun x => nx 30 lv (.ref x :: st) w)) := id rfl
theorem sX8_value_30 (lv : zL) (st : List Value) (w : zW) (nx K : Nat → zL → List Value → zW → Prop) (Rt : Option Value → zW → Prop) : z_st1 (tX8_value 30) 30 lv st w nx K Rt = (z_1a st (fun x r => z_ob w x 9 (fun fs => z_fl fs 1 (fun u => nx 33 lv (u :: r) w)))) := id rfl
theorem sX8_value_33 (lv : zL) (st : List Value) (w : zW) (nx K : Nat → zL → List Value → zW → Prop) (Rt : Option Value → zW → Prop) : z_st1 (tX8_value 33) 33 lv st w nx K Rt = (z_la lv 0 (fun x => nx 34 lv (.ref x :: st) w)) := id rfl
theorem sX8_value_34 (lv : zL) (st : List Value) (w : zW) (nx K : Nat → zL → List Value → zW → Prop) (Rt : Option Value → zW → Prop) : z_st1 (tX8_value 34) 34 lv st w nx K Rt = (z_1a st (fun x r => z_ob w x 9 (fun fs => z_fl fs 15 (fun u => nx 37 lv (u :: r) w)))) := id rfl
theorem sX8_value_37 (lv : zL) (st : List Value) (w : zW) (nx K : Nat → zL → List Value → zW → Prop) (Rt : Option Value → zW → Prop) : z_st1 (tX8_value 37) 37 lv st w nx K Rt = (z_li lv 1 (fun x => nx 38 lv (.int x :: st) w)) := id rfl
theorem sX8_value_41 (lv : zL) (st : List Value) (w : zW) (nx K : Nat → zL → List Value → zW → Prop) (Rt : Option Value → zW → Prop) : z_st1 (tX8_value 41) 41 lv st w nx K Rt = (z_e1 st (fun x => Rt (some (.int x)) w)) := id rfl
theorem sX8_value_21 (lv : zL) (st : List Value) (w : zW) (nx K : Nat → zL → List Value → zW → Prop) (Rt : Option Value → zW → Prop) : z_st1 (tX8_value 21) 21 lv st w nx K Rt = K 21 lv st w := id rfl
theorem sX8_value_38 (lv : zL) (st : List Value) (w : zW) (nx K : Nat → zL → List Value → zW → Prop) (Rt : Option Value → zW → Prop) : z_st1 (tX8_value 38) 38 lv st w nx K Rt = K 38 lv st w := id rfl
theorem dX8_value_21 : decode cX8_value 21 = .ok (.invokevirtual 129, 3) := by decide +kernel
theorem dX8_value_38 : decode cX8_value 38 = .ok (.invokevirtual 192, 3) := by decide +kernel

def tmX8_merge (pc : Nat) : zI := match pc with
  | 0 => (1, 0, 0, 1, 0)
  | 1 => (0, 2, 0, 2, 0)
  | 5 => (35, 11, 0, 8, 0)
  | 8 => (6, 0, 0, 10, (-2))
  | 10 => (53, 0, 0, 11, 0)
  | 11 => (0, 1, 0, 12, 0)
  | 12 => (36, 21, 0, 15, 0)
  | 15 => (0, 1, 0, 16, 0)
  | 16 => (6, 0, 0, 18, 8)
  | 18 => (42, 24, 0, 21, 0)
  | 21 => (6, 0, 0, 23, (-4))
  | 23 => (53, 0, 0, 24, 0)
  | 24 => (1, 0, 0, 25, 0)
  | 25 => (46, 9, 8, 28, 0)
  | 28 => (0, 1, 0, 29, 0)
  | 29 => (0, 2, 0, 30, 0)
  | 33 => (53, 0, 0, 34, 0)
  | _ => (99, 0, 0, 0, 0)
def tX8_merge (pc : Nat) : zI := if pc < 34 then tmX8_merge pc else (99, 0, 0, 0, 0)
theorem tkX8_merge : z_tab RX8 wsX8_merge 3 (some .int) cX8_merge 34 tX8_merge := z_tab_of (tm := tmX8_merge) (by decide +kernel)
theorem sX8_merge_0 (lv : zL) (st : List Value) (w : zW) (nx K : Nat → zL → List Value → zW → Prop) (Rt : Option Value → zW → Prop) : z_st1 (tX8_merge 0) 0 lv st w nx K Rt = (z_la lv 0 (fun x => nx 1 lv (.ref x :: st) w)) := id rfl
theorem sX8_merge_1 (lv : zL) (st : List Value) (w : zW) (nx K : Nat → zL → List Value → zW → Prop) (Rt : Option Value → zW → Prop) : z_st1 (tX8_merge 1) 1 lv st w nx K Rt = (z_li lv 2 (fun x => nx 2 lv (.int x :: st) w)) := id rfl
theorem sX8_merge_5 (lv : zL) (st : List Value) (w : zW) (nx K : Nat → zL → List Value → zW → Prop) (Rt : Option Value → zW → Prop) : z_st1 (tX8_merge 5) 5 lv st w nx K Rt = (z_1i st (fun x r => (¬ x = 0 → nx 11 lv r w) ∧ (x = 0 → nx 8 lv r w))) := id rfl
theorem sX8_merge_8 (lv : zL) (st : List Value) (w : zW) (nx K : Nat → zL → List Value → zW → Prop) (Rt : Option Value → zW → Prop) : z_st1 (tX8_merge 8) 8 lv st w nx K Rt = (nx 10 lv (.int (-2 : Int32) :: st) w) := id rfl
theorem sX8_merge_10 (lv : zL) (st : List Value) (w : zW) (nx K : Nat → zL → List Value → zW → Prop) (Rt : Option Value → zW → Prop) : z_st1 (tX8_merge 10) 10 lv st w nx K Rt = (z_e1 st (fun x => Rt (some (.int x)) w)) := id rfl
theorem sX8_merge_11 (lv : zL) (st : List Value) (w : zW) (nx K : Nat → zL → List Value → zW → Prop) (Rt : Option Value → zW → Prop) : z_st1 (tX8_merge 11) 11 lv st w nx K Rt = (z_li lv 1 (fun x => nx 12 lv (.int x :: st) w)) := id rfl
theorem sX8_merge_12 (lv : zL) (st : List Value) (w : zW) (nx K : Nat → zL → List Value → zW → Prop) (Rt : Option Value → zW → Prop) : z_st1 (tX8_merge 12) 12 lv st w nx K Rt = (z_1i st (fun x r => (x < 0 → nx 21 lv r w) ∧ (¬ x < 0 → nx 15 lv r w))) := id rfl
theorem sX8_merge_15 (lv : zL) (st : List Value) (w : zW) (nx K : Nat → zL → List Value → zW → Prop) (Rt : Option Value → zW → Prop) : z_st1 (tX8_merge 15) 15 lv st w nx K Rt = (z_li lv 1 (fun x => nx 16 lv (.int x :: st) w)) := id rfl
theorem sX8_merge_16 (lv : zL) (st : List Value) (w : zW) (nx K : Nat → zL → List Value → zW → Prop) (Rt : Option Value → zW → Prop) : z_st1 (tX8_merge 16) 16 lv st w nx K Rt = (nx 18 lv (.int (8 : Int32) :: st) w) := id rfl
theorem sX8_merge_18 (lv : zL) (st : List Value) (w : zW) (nx K : Nat → zL → List Value → zW → Prop) (Rt : Option Value → zW → Prop) : z_st1 (tX8_merge 18) 18 lv st w nx K Rt = (z_2i st (fun x y r => (x < y → nx 24 lv r w) ∧ (¬ x < y → nx 21 lv r w))) := id rfl
theorem sX8_merge_21 (lv : zL) (st : List Value) (w : zW) (nx K : Nat → zL → List Value → zW → Prop) (Rt : Option Value → zW → Prop) : z_st1 (tX8_merge 21) 21 lv st w nx K Rt = (nx 23 lv (.int (-4 : Int32) :: st) w) := id rfl
theorem sX8_merge_23 (lv : zL) (st : List Value) (w : zW) (nx K : Nat → zL → List Value → zW → Prop) (Rt : Option Value → zW → Prop) : z_st1 (tX8_merge 23) 23 lv st w nx K Rt = (z_e1 st (fun x => Rt (some (.int x)) w)) := id rfl
theorem sX8_merge_24 (lv : zL) (st : List Value) (w : zW) (nx K : Nat → zL → List Value → zW → Prop) (Rt : Option Value → zW → Prop) : z_st1 (tX8_merge 24) 24 lv st w nx K Rt = (z_la lv 0 (fun x => nx 25 lv (.ref x :: st) w)) := id rfl
theorem sX8_merge_25 (lv : zL) (st : List Value) (w : zW) (nx K : Nat → zL → List Value → zW → Prop) (Rt : Option Value → zW → Prop) : z_st1 (tX8_merge 25) 25 lv st w nx K Rt = (z_1a st (fun x r => z_ob w x 9 (fun fs => z_fl fs 8 (fun u => nx 28 lv (u :: r) w)))) := id rfl
theorem sX8_merge_28 (lv : zL) (st : List Value) (w : zW) (nx K : Nat → zL → List Value → zW → Prop) (Rt : Option Value → zW → Prop) : z_st1 (tX8_merge 28) 28 lv st w nx K Rt = (z_li lv 1 (fun x => nx 29 lv (.int x :: st) w)) := id rfl
theorem sX8_merge_29 (lv : zL) (st : List Value) (w : zW) (nx K : Nat → zL → List Value → zW → Prop) (Rt : Option Value → zW → Prop) : z_st1 (tX8_merge 29) 29 lv st w nx K Rt = (z_li lv 2 (fun x => nx 30 lv (.int x :: st) w)) := id rfl
theorem sX8_merge_33 (lv : zL) (st : List Value) (w : zW) (nx K : Nat → zL → List Value → zW → Prop) (Rt : Option Value → zW → Prop) : z_st1 (tX8_merge 33) 33 lv st w nx K Rt = (z_e1 st (fun x => Rt (some (.int x)) w)) := id rfl
theorem sX8_merge_2 (lv : zL) (st : List Value) (w : zW) (nx K : Nat → zL → List Value → zW → Prop) (Rt : Option Value → zW → Prop) : z_st1 (tX8_merge 2) 2 lv st w nx K Rt = K 2 lv st w := id rfl
theorem sX8_merge_30 (lv : zL) (st : List Value) (w : zW) (nx K : Nat → zL → List Value → zW → Prop) (Rt : Option Value → zW → Prop) : z_st1 (tX8_merge 30) 30 lv st w nx K Rt = K 30 lv st w := id rfl
theorem dX8_merge_2 : decode cX8_merge 2 = .ok (.invokevirtual 121, 3) := by decide +kernel
theorem dX8_merge_30 : decode cX8_merge 30 = .ok (.invokevirtual 195, 3) := by decide +kernel

def tmX8_mergeAll (pc : Nat) : zI := match pc with
  | 0 => (1, 0, 0, 1, 0)
  | 1 => (46, 9, 13, 4, 0)
  | 4 => (6, 0, 0, 5, 1)
  | 5 => (41, 11, 0, 8, 0)
  | 8 => (6, 0, 0, 10, (-5))
  | 10 => (53, 0, 0, 11, 0)
  | 11 => (1, 0, 0, 12, 0)
  | 12 => (46, 9, 8, 15, 0)
  | 15 => (1, 0, 0, 16, 0)
  | 16 => (46, 9, 0, 19, 0)
  | 19 => (1, 0, 0, 20, 0)
  | 20 => (46, 9, 2, 23, 0)
  | 26 => (3, 1, 0, 27, 0)
  | 27 => (0, 1, 0, 28, 0)
  | 28 => (6, 0, 0, 29, (-1))
  | 29 => (40, 37, 0, 32, 0)
  | 32 => (6, 0, 0, 34, (-10))
  | 34 => (0, 1, 0, 35, 0)
  | 35 => (9, 0, 0, 36, 0)
  | 36 => (53, 0, 0, 37, 0)
  | 37 => (1, 0, 0, 38, 0)
  | 41 => (1, 0, 0, 42, 0)
  | 42 => (46, 9, 3, 45, 0)
  | 45 => (6, 0, 0, 46, 1)
  | 49 => (1, 0, 0, 50, 0)
  | 50 => (46, 9, 3, 53, 0)
  | 53 => (6, 0, 0, 55, 8)
  | 58 => (30, 0, 0, 59, 0)
  | 59 => (1, 0, 0, 60, 0)
  | 60 => (46, 9, 8, 63, 0)
  | 66 => (1, 0, 0, 67, 0)
  | 70 => (53, 0, 0, 71, 0)
  | _ => (99, 0, 0, 0, 0)
def tX8_mergeAll (pc : Nat) : zI := if pc < 71 then tmX8_mergeAll pc else (99, 0, 0, 0, 0)
theorem tkX8_mergeAll : z_tab RX8 wsX8_mergeAll 2 (some .int) cX8_mergeAll 71 tX8_mergeAll := z_tab_of (tm := tmX8_mergeAll) (by decide +kernel)
theorem sX8_mergeAll_0 (lv : zL) (st : List Value) (w : zW) (nx K : Nat → zL → List Value → zW → Prop) (Rt : Option Value → zW → Prop) : z_st1 (tX8_mergeAll 0) 0 lv st w nx K Rt = (z_la lv 0 (fun x => nx 1 lv (.ref x :: st) w)) := id rfl
theorem sX8_mergeAll_1 (lv : zL) (st : List Value) (w : zW) (nx K : Nat → zL → List Value → zW → Prop) (Rt : Option Value → zW → Prop) : z_st1 (tX8_mergeAll 1) 1 lv st w nx K Rt = (z_1a st (fun x r => z_ob w x 9 (fun fs => z_fl fs 13 (fun u => nx 4 lv (u :: r) w)))) := id rfl
theorem sX8_mergeAll_4 (lv : zL) (st : List Value) (w : zW) (nx K : Nat → zL → List Value → zW → Prop) (Rt : Option Value → zW → Prop) : z_st1 (tX8_mergeAll 4) 4 lv st w nx K Rt = (nx 5 lv (.int (1 : Int32) :: st) w) := id rfl
theorem sX8_mergeAll_5 (lv : zL) (st : List Value) (w : zW) (nx K : Nat → zL → List Value → zW → Prop) (Rt : Option Value → zW → Prop) : z_st1 (tX8_mergeAll 5) 5 lv st w nx K Rt = (z_2i st (fun x y r => (¬ x = y → nx 11 lv r w) ∧ (x = y → nx 8 lv r w))) := id rfl
theorem sX8_mergeAll_8 (lv : zL) (st : List Value) (w : zW) (nx K : Nat → zL → List Value → zW → Prop) (Rt : Option Value → zW → Prop) : z_st1 (tX8_mergeAll 8) 8 lv st w nx K Rt = (nx 10 lv (.int (-5 : Int32) :: st) w) := id rfl
theorem sX8_mergeAll_10 (lv : zL) (st : List Value) (w : zW) (nx K : Nat → zL → List Value → zW → Prop) (Rt : Option Value → zW → Prop) : z_st1 (tX8_mergeAll 10) 10 lv st w nx K Rt = (z_e1 st (fun x => Rt (some (.int x)) w)) := id rfl
theorem sX8_mergeAll_11 (lv : zL) (st : List Value) (w : zW) (nx K : Nat → zL → List Value → zW → Prop) (Rt : Option Value → zW → Prop) : z_st1 (tX8_mergeAll 11) 11 lv st w nx K Rt = (z_la lv 0 (fun x => nx 12 lv (.ref x :: st) w)) := id rfl
theorem sX8_mergeAll_12 (lv : zL) (st : List Value) (w : zW) (nx K : Nat → zL → List Value → zW → Prop) (Rt : Option Value → zW → Prop) : z_st1 (tX8_mergeAll 12) 12 lv st w nx K Rt = (z_1a st (fun x r => z_ob w x 9 (fun fs => z_fl fs 8 (fun u => nx 15 lv (u :: r) w)))) := id rfl
theorem sX8_mergeAll_15 (lv : zL) (st : List Value) (w : zW) (nx K : Nat → zL → List Value → zW → Prop) (Rt : Option Value → zW → Prop) : z_st1 (tX8_mergeAll 15) 15 lv st w nx K Rt = (z_la lv 0 (fun x => nx 16 lv (.ref x :: st) w)) := id rfl
theorem sX8_mergeAll_16 (lv : zL) (st : List Value) (w : zW) (nx K : Nat → zL → List Value → zW → Prop) (Rt : Option Value → zW → Prop) : z_st1 (tX8_mergeAll 16) 16 lv st w nx K Rt = (z_1a st (fun x r => z_ob w x 9 (fun fs => z_fl fs 0 (fun u => nx 19 lv (u :: r) w)))) := id rfl
theorem sX8_mergeAll_19 (lv : zL) (st : List Value) (w : zW) (nx K : Nat → zL → List Value → zW → Prop) (Rt : Option Value → zW → Prop) : z_st1 (tX8_mergeAll 19) 19 lv st w nx K Rt = (z_la lv 0 (fun x => nx 20 lv (.ref x :: st) w)) := id rfl
theorem sX8_mergeAll_20 (lv : zL) (st : List Value) (w : zW) (nx K : Nat → zL → List Value → zW → Prop) (Rt : Option Value → zW → Prop) : z_st1 (tX8_mergeAll 20) 20 lv st w nx K Rt = (z_1a st (fun x r => z_ob w x 9 (fun fs => z_fl fs 2 (fun u => nx 23 lv (u :: r) w)))) := id rfl
theorem sX8_mergeAll_26 (lv : zL) (st : List Value) (w : zW) (nx K : Nat → zL → List Value → zW → Prop) (Rt : Option Value → zW → Prop) : z_st1 (tX8_mergeAll 26) 26 lv st w nx K Rt = (z_1i st (fun x r => z_ok1 lv 1 = true ∧ nx 27 (lv.set 1 (some (.int x))) r w)) := id rfl
theorem sX8_mergeAll_27 (lv : zL) (st : List Value) (w : zW) (nx K : Nat → zL → List Value → zW → Prop) (Rt : Option Value → zW → Prop) : z_st1 (tX8_mergeAll 27) 27 lv st w nx K Rt = (z_li lv 1 (fun x => nx 28 lv (.int x :: st) w)) := id rfl
theorem sX8_mergeAll_28 (lv : zL) (st : List Value) (w : zW) (nx K : Nat → zL → List Value → zW → Prop) (Rt : Option Value → zW → Prop) : z_st1 (tX8_mergeAll 28) 28 lv st w nx K Rt = (nx 29 lv (.int (-1 : Int32) :: st) w) := id rfl
theorem sX8_mergeAll_29 (lv : zL) (st : List Value) (w : zW) (nx K : Nat → zL → List Value → zW → Prop) (Rt : Option Value → zW → Prop) : z_st1 (tX8_mergeAll 29) 29 lv st w nx K Rt = (z_2i st (fun x y r => (x = y → nx 37 lv r w) ∧ (¬ x = y → nx 32 lv r w))) := id rfl
theorem sX8_mergeAll_32 (lv : zL) (st : List Value) (w : zW) (nx K : Nat → zL → List Value → zW → Prop) (Rt : Option Value → zW → Prop) : z_st1 (tX8_mergeAll 32) 32 lv st w nx K Rt = (nx 34 lv (.int (-10 : Int32) :: st) w) := id rfl
theorem sX8_mergeAll_34 (lv : zL) (st : List Value) (w : zW) (nx K : Nat → zL → List Value → zW → Prop) (Rt : Option Value → zW → Prop) : z_st1 (tX8_mergeAll 34) 34 lv st w nx K Rt = (z_li lv 1 (fun x => nx 35 lv (.int x :: st) w)) := id rfl
theorem sX8_mergeAll_35 (lv : zL) (st : List Value) (w : zW) (nx K : Nat → zL → List Value → zW → Prop) (Rt : Option Value → zW → Prop) : z_st1 (tX8_mergeAll 35) 35 lv st w nx K Rt = (z_2i st (fun x y r => nx 36 lv (.int (x - y) :: r) w)) := id rfl
theorem sX8_mergeAll_36 (lv : zL) (st : List Value) (w : zW) (nx K : Nat → zL → List Value → zW → Prop) (Rt : Option Value → zW → Prop) : z_st1 (tX8_mergeAll 36) 36 lv st w nx K Rt = (z_e1 st (fun x => Rt (some (.int x)) w)) := id rfl
theorem sX8_mergeAll_37 (lv : zL) (st : List Value) (w : zW) (nx K : Nat → zL → List Value → zW → Prop) (Rt : Option Value → zW → Prop) : z_st1 (tX8_mergeAll 37) 37 lv st w nx K Rt = (z_la lv 0 (fun x => nx 38 lv (.ref x :: st) w)) := id rfl
theorem sX8_mergeAll_41 (lv : zL) (st : List Value) (w : zW) (nx K : Nat → zL → List Value → zW → Prop) (Rt : Option Value → zW → Prop) : z_st1 (tX8_mergeAll 41) 41 lv st w nx K Rt = (z_la lv 0 (fun x => nx 42 lv (.ref x :: st) w)) := id rfl
theorem sX8_mergeAll_42 (lv : zL) (st : List Value) (w : zW) (nx K : Nat → zL → List Value → zW → Prop) (Rt : Option Value → zW → Prop) : z_st1 (tX8_mergeAll 42) 42 lv st w nx K Rt = (z_1a st (fun x r => z_ob w x 9 (fun fs => z_fl fs 3 (fun u => nx 45 lv (u :: r) w)))) := id rfl
theorem sX8_mergeAll_45 (lv : zL) (st : List Value) (w : zW) (nx K : Nat → zL → List Value → zW → Prop) (Rt : Option Value → zW → Prop) : z_st1 (tX8_mergeAll 45) 45 lv st w nx K Rt = (nx 46 lv (.int (1 : Int32) :: st) w) := id rfl
theorem sX8_mergeAll_49 (lv : zL) (st : List Value) (w : zW) (nx K : Nat → zL → List Value → zW → Prop) (Rt : Option Value → zW → Prop) : z_st1 (tX8_mergeAll 49) 49 lv st w nx K Rt = (z_la lv 0 (fun x => nx 50 lv (.ref x :: st) w)) := id rfl
theorem sX8_mergeAll_50 (lv : zL) (st : List Value) (w : zW) (nx K : Nat → zL → List Value → zW → Prop) (Rt : Option Value → zW → Prop) : z_st1 (tX8_mergeAll 50) 50 lv st w nx K Rt = (z_1a st (fun x r => z_ob w x 9 (fun fs => z_fl fs 3 (fun u => nx 53 lv (u :: r) w)))) := id rfl
theorem sX8_mergeAll_53 (lv : zL) (st : List Value) (w : zW) (nx K : Nat → zL → List Value → zW → Prop) (Rt : Option Value → zW → Prop) : z_st1 (tX8_mergeAll 53) 53 lv st w nx K Rt = (nx 55 lv (.int (8 : Int32) :: st) w) := id rfl
theorem sX8_mergeAll_58 (lv : zL) (st : List Value) (w : zW) (nx K : Nat → zL → List Value → zW → Prop) (Rt : Option Value → zW → Prop) : z_st1 (tX8_mergeAll 58) 58 lv st w nx K Rt = (z_d1 st (fun _ r => nx 59 lv r w)) := id rfl
theorem sX8_mergeAll_59 (lv : zL) (st : List Value) (w : zW) (nx K : Nat → zL → List Value → zW → Prop) (Rt : Option Value → zW → Prop) : z_st1 (tX8_mergeAll 59) 59 lv st w nx K Rt = (z_la lv 0 (fun x => nx 60 lv (.ref x :: st) w)) := id rfl
theorem sX8_mergeAll_60 (lv : zL) (st : List Value) (w : zW) (nx K : Nat → zL → List Value → zW → Prop) (Rt : Option Value → zW → Prop) : z_st1 (tX8_mergeAll 60) 60 lv st w nx K Rt = (z_1a st (fun x r => z_ob w x 9 (fun fs => z_fl fs 8 (fun u => nx 63 lv (u :: r) w)))) := id rfl
theorem sX8_mergeAll_66 (lv : zL) (st : List Value) (w : zW) (nx K : Nat → zL → List Value → zW → Prop) (Rt : Option Value → zW → Prop) : z_st1 (tX8_mergeAll 66) 66 lv st w nx K Rt = (z_la lv 0 (fun x => nx 67 lv (.ref x :: st) w)) := id rfl
theorem sX8_mergeAll_70 (lv : zL) (st : List Value) (w : zW) (nx K : Nat → zL → List Value → zW → Prop) (Rt : Option Value → zW → Prop) : z_st1 (tX8_mergeAll 70) 70 lv st w nx K Rt = (z_e1 st (fun x => Rt (some (.int x)) w)) := id rfl
theorem sX8_mergeAll_23 (lv : zL) (st : List Value) (w : zW) (nx K : Nat → zL → List Value → zW → Prop) (Rt : Option Value → zW → Prop) : z_st1 (tX8_mergeAll 23) 23 lv st w nx K Rt = K 23 lv st w := id rfl
theorem sX8_mergeAll_38 (lv : zL) (st : List Value) (w : zW) (nx K : Nat → zL → List Value → zW → Prop) (Rt : Option Value → zW → Prop) : z_st1 (tX8_mergeAll 38) 38 lv st w nx K Rt = K 38 lv st w := id rfl
theorem sX8_mergeAll_46 (lv : zL) (st : List Value) (w : zW) (nx K : Nat → zL → List Value → zW → Prop) (Rt : Option Value → zW → Prop) : z_st1 (tX8_mergeAll 46) 46 lv st w nx K Rt = K 46 lv st w := id rfl
theorem sX8_mergeAll_55 (lv : zL) (st : List Value) (w : zW) (nx K : Nat → zL → List Value → zW → Prop) (Rt : Option Value → zW → Prop) : z_st1 (tX8_mergeAll 55) 55 lv st w nx K Rt = K 55 lv st w := id rfl
theorem sX8_mergeAll_63 (lv : zL) (st : List Value) (w : zW) (nx K : Nat → zL → List Value → zW → Prop) (Rt : Option Value → zW → Prop) : z_st1 (tX8_mergeAll 63) 63 lv st w nx K Rt = K 63 lv st w := id rfl
theorem sX8_mergeAll_67 (lv : zL) (st : List Value) (w : zW) (nx K : Nat → zL → List Value → zW → Prop) (Rt : Option Value → zW → Prop) : z_st1 (tX8_mergeAll 67) 67 lv st w nx K Rt = K 67 lv st w := id rfl
theorem dX8_mergeAll_23 : decode cX8_mergeAll 23 = .ok (.invokevirtual 197, 3) := by decide +kernel
theorem dX8_mergeAll_38 : decode cX8_mergeAll 38 = .ok (.invokevirtual 201, 3) := by decide +kernel
theorem dX8_mergeAll_46 : decode cX8_mergeAll 46 = .ok (.invokevirtual 152, 3) := by decide +kernel
theorem dX8_mergeAll_55 : decode cX8_mergeAll 55 = .ok (.invokevirtual 162, 3) := by decide +kernel
theorem dX8_mergeAll_63 : decode cX8_mergeAll 63 = .ok (.invokevirtual 204, 3) := by decide +kernel
theorem dX8_mergeAll_67 : decode cX8_mergeAll 67 = .ok (.invokevirtual 182, 3) := by decide +kernel

def tmX8_compare (pc : Nat) : zI := match pc with
  | 0 => (1, 0, 0, 1, 0)
  | 1 => (0, 1, 0, 2, 0)
  | 5 => (34, 16, 0, 8, 0)
  | 8 => (1, 0, 0, 9, 0)
  | 9 => (0, 2, 0, 10, 0)
  | 13 => (35, 26, 0, 16, 0)
  | 19 => (29, 0, 0, 20, 0)
  | 26 => (1, 0, 0, 27, 0)
  | 27 => (46, 9, 2, 30, 0)
  | 30 => (1, 0, 0, 31, 0)
  | 31 => (46, 9, 0, 34, 0)
  | 34 => (0, 1, 0, 35, 0)
  | 35 => (6, 0, 0, 36, 1)
  | 36 => (9, 0, 0, 37, 0)
  | 37 => (0, 2, 0, 38, 0)
  | 38 => (6, 0, 0, 39, 1)
  | 39 => (9, 0, 0, 40, 0)
  | 43 => (53, 0, 0, 44, 0)
  | _ => (99, 0, 0, 0, 0)
def tX8_compare (pc : Nat) : zI := if pc < 44 then tmX8_compare pc else (99, 0, 0, 0, 0)
theorem tkX8_compare : z_tab RX8 wsX8_compare 3 (some .int) cX8_compare 44 tX8_compare := z_tab_of (tm := tmX8_compare) (by decide +kernel)
theorem sX8_compare_0 (lv : zL) (st : List Value) (w : zW) (nx K : Nat → zL → List Value → zW → Prop) (Rt : Option Value → zW → Prop) : z_st1 (tX8_compare 0) 0 lv st w nx K Rt = (z_la lv 0 (fun x => nx 1 lv (.ref x :: st) w)) := id rfl
theorem sX8_compare_1 (lv : zL) (st : List Value) (w : zW) (nx K : Nat → zL → List Value → zW → Prop) (Rt : Option Value → zW → Prop) : z_st1 (tX8_compare 1) 1 lv st w nx K Rt = (z_li lv 1 (fun x => nx 2 lv (.int x :: st) w)) := id rfl
theorem sX8_compare_5 (lv : zL) (st : List Value) (w : zW) (nx K : Nat → zL → List Value → zW → Prop) (Rt : Option Value → zW → Prop) : z_st1 (tX8_compare 5) 5 lv st w nx K Rt = (z_1i st (fun x r => (x = 0 → nx 16 lv r w) ∧ (¬ x = 0 → nx 8 lv r w))) := id rfl
theorem sX8_compare_8 (lv : zL) (st : List Value) (w : zW) (nx K : Nat → zL → List Value → zW → Prop) (Rt : Option Value → zW → Prop) : z_st1 (tX8_compare 8) 8 lv st w nx K Rt = (z_la lv 0 (fun x => nx 9 lv (.ref x :: st) w)) := id rfl
theorem sX8_compare_9 (lv : zL) (st : List Value) (w : zW) (nx K : Nat → zL → List Value → zW → Prop) (Rt : Option Value → zW → Prop) : z_st1 (tX8_compare 9) 9 lv st w nx K Rt = (z_li lv 2 (fun x => nx 10 lv (.int x :: st) w)) := id rfl
theorem sX8_compare_13 (lv : zL) (st : List Value) (w : zW) (nx K : Nat → zL → List Value → zW → Prop) (Rt : Option Value → zW → Prop) : z_st1 (tX8_compare 13) 13 lv st w nx K Rt = (z_1i st (fun x r => (¬ x = 0 → nx 26 lv r w) ∧ (x = 0 → nx 16 lv r w))) := id rfl
theorem sX8_compare_19 (lv : zL) (st : List Value) (w : zW) (nx K : Nat → zL → List Value → zW → Prop) (Rt : Option Value → zW → Prop) : z_st1 (tX8_compare 19) 19 lv st w nx K Rt = (z_d1 st (fun x r => nx 20 lv (x :: x :: r) w)) := id rfl
theorem sX8_compare_26 (lv : zL) (st : List Value) (w : zW) (nx K : Nat → zL → List Value → zW → Prop) (Rt : Option Value → zW → Prop) : z_st1 (tX8_compare 26) 26 lv st w nx K Rt = (z_la lv 0 (fun x => nx 27 lv (.ref x :: st) w)) := id rfl
theorem sX8_compare_27 (lv : zL) (st : List Value) (w : zW) (nx K : Nat → zL → List Value → zW → Prop) (Rt : Option Value → zW → Prop) : z_st1 (tX8_compare 27) 27 lv st w nx K Rt = (z_1a st (fun x r => z_ob w x 9 (fun fs => z_fl fs 2 (fun u => nx 30 lv (u :: r) w)))) := id rfl
theorem sX8_compare_30 (lv : zL) (st : List Value) (w : zW) (nx K : Nat → zL → List Value → zW → Prop) (Rt : Option Value → zW → Prop) : z_st1 (tX8_compare 30) 30 lv st w nx K Rt = (z_la lv 0 (fun x => nx 31 lv (.ref x :: st) w)) := id rfl
theorem sX8_compare_31 (lv : zL) (st : List Value) (w : zW) (nx K : Nat → zL → List Value → zW → Prop) (Rt : Option Value → zW → Prop) : z_st1 (tX8_compare 31) 31 lv st w nx K Rt = (z_1a st (fun x r => z_ob w x 9 (fun fs => z_fl fs 0 (fun u => nx 34 lv (u :: r) w)))) := id rfl
theorem sX8_compare_34 (lv : zL) (st : List Value) (w : zW) (nx K : Nat → zL → List Value → zW → Prop) (Rt : Option Value → zW → Prop) : z_st1 (tX8_compare 34) 34 lv st w nx K Rt = (z_li lv 1 (fun x => nx 35 lv (.int x :: st) w)) := id rfl
theorem sX8_compare_35 (lv : zL) (st : List Value) (w : zW) (nx K : Nat → zL → List Value → zW → Prop) (Rt : Option Value → zW → Prop) : z_st1 (tX8_compare 35) 35 lv st w nx K Rt = (nx 36 lv (.int (1 : Int32) :: st) w) := id rfl
theorem sX8_compare_36 (lv : zL) (st : List Value) (w : zW) (nx K : Nat → zL → List Value → zW → Prop) (Rt : Option Value → zW → Prop) : z_st1 (tX8_compare 36) 36 lv st w nx K Rt = (z_2i st (fun x y r => nx 37 lv (.int (x - y) :: r) w)) := id rfl
theorem sX8_compare_37 (lv : zL) (st : List Value) (w : zW) (nx K : Nat → zL → List Value → zW → Prop) (Rt : Option Value → zW → Prop) : z_st1 (tX8_compare 37) 37 lv st w nx K Rt = (z_li lv 2 (fun x => nx 38 lv (.int x :: st) w)) := id rfl
theorem sX8_compare_38 (lv : zL) (st : List Value) (w : zW) (nx K : Nat → zL → List Value → zW → Prop) (Rt : Option Value → zW → Prop) : z_st1 (tX8_compare 38) 38 lv st w nx K Rt = (nx 39 lv (.int (1 : Int32) :: st) w) := id rfl
theorem sX8_compare_39 (lv : zL) (st : List Value) (w : zW) (nx K : Nat → zL → List Value → zW → Prop) (Rt : Option Value → zW → Prop) : z_st1 (tX8_compare 39) 39 lv st w nx K Rt = (z_2i st (fun x y r => nx 40 lv (.int (x - y) :: r) w)) := id rfl
theorem sX8_compare_43 (lv : zL) (st : List Value) (w : zW) (nx K : Nat → zL → List Value → zW → Prop) (Rt : Option Value → zW → Prop) : z_st1 (tX8_compare 43) 43 lv st w nx K Rt = (z_e1 st (fun x => Rt (some (.int x)) w)) := id rfl
theorem sX8_compare_2 (lv : zL) (st : List Value) (w : zW) (nx K : Nat → zL → List Value → zW → Prop) (Rt : Option Value → zW → Prop) : z_st1 (tX8_compare 2) 2 lv st w nx K Rt = K 2 lv st w := id rfl
theorem sX8_compare_10 (lv : zL) (st : List Value) (w : zW) (nx K : Nat → zL → List Value → zW → Prop) (Rt : Option Value → zW → Prop) : z_st1 (tX8_compare 10) 10 lv st w nx K Rt = K 10 lv st w := id rfl
theorem sX8_compare_16 (lv : zL) (st : List Value) (w : zW) (nx K : Nat → zL → List Value → zW → Prop) (Rt : Option Value → zW → Prop) : z_st1 (tX8_compare 16) 16 lv st w nx K Rt = K 16 lv st w := id rfl
theorem sX8_compare_20 (lv : zL) (st : List Value) (w : zW) (nx K : Nat → zL → List Value → zW → Prop) (Rt : Option Value → zW → Prop) : z_st1 (tX8_compare 20) 20 lv st w nx K Rt = K 20 lv st w := id rfl
theorem sX8_compare_22 (lv : zL) (st : List Value) (w : zW) (nx K : Nat → zL → List Value → zW → Prop) (Rt : Option Value → zW → Prop) : z_st1 (tX8_compare 22) 22 lv st w nx K Rt = K 22 lv st w := id rfl
theorem sX8_compare_25 (lv : zL) (st : List Value) (w : zW) (nx K : Nat → zL → List Value → zW → Prop) (Rt : Option Value → zW → Prop) : z_st1 (tX8_compare 25) 25 lv st w nx K Rt = K 25 lv st w := id rfl
theorem sX8_compare_40 (lv : zL) (st : List Value) (w : zW) (nx K : Nat → zL → List Value → zW → Prop) (Rt : Option Value → zW → Prop) : z_st1 (tX8_compare 40) 40 lv st w nx K Rt = K 40 lv st w := id rfl
theorem dX8_compare_2 : decode cX8_compare 2 = .ok (.invokevirtual 121, 3) := by decide +kernel
theorem dX8_compare_10 : decode cX8_compare 10 = .ok (.invokevirtual 121, 3) := by decide +kernel
theorem dX8_compare_16 : decode cX8_compare 16 = .ok (.new 205, 3) := by decide +kernel
theorem dX8_compare_20 : decode cX8_compare 20 = .ok (.ldc 207, 2) := by decide +kernel
theorem dX8_compare_22 : decode cX8_compare 22 = .ok (.invokespecial 209, 3) := by decide +kernel
theorem dX8_compare_25 : decode cX8_compare 25 = .ok (.athrow, 1) := by decide +kernel
theorem dX8_compare_40 : decode cX8_compare 40 = .ok (.invokevirtual 210, 3) := by decide +kernel

def tmX8_failed (pc : Nat) : zI := match pc with
  | 0 => (1, 0, 0, 1, 0)
  | 1 => (46, 9, 16, 4, 0)
  | 4 => (53, 0, 0, 5, 0)
  | _ => (99, 0, 0, 0, 0)
def tX8_failed (pc : Nat) : zI := if pc < 5 then tmX8_failed pc else (99, 0, 0, 0, 0)
theorem tkX8_failed : z_tab RX8 wsX8_failed 1 (some .int) cX8_failed 5 tX8_failed := z_tab_of (tm := tmX8_failed) (by decide +kernel)
theorem sX8_failed_0 (lv : zL) (st : List Value) (w : zW) (nx K : Nat → zL → List Value → zW → Prop) (Rt : Option Value → zW → Prop) : z_st1 (tX8_failed 0) 0 lv st w nx K Rt = (z_la lv 0 (fun x => nx 1 lv (.ref x :: st) w)) := id rfl
theorem sX8_failed_1 (lv : zL) (st : List Value) (w : zW) (nx K : Nat → zL → List Value → zW → Prop) (Rt : Option Value → zW → Prop) : z_st1 (tX8_failed 1) 1 lv st w nx K Rt = (z_1a st (fun x r => z_ob w x 9 (fun fs => z_fl fs 16 (fun u => nx 4 lv (u :: r) w)))) := id rfl
theorem sX8_failed_4 (lv : zL) (st : List Value) (w : zW) (nx K : Nat → zL → List Value → zW → Prop) (Rt : Option Value → zW → Prop) : z_st1 (tX8_failed 4) 4 lv st w nx K Rt = (z_e1 st (fun x => Rt (some (.int x)) w)) := id rfl

def tmX8_count (pc : Nat) : zI := match pc with
  | 0 => (0, 1, 0, 1, 0)
  | 56 => (1, 0, 0, 57, 0)
  | 57 => (46, 9, 2, 60, 0)
  | 63 => (53, 0, 0, 64, 0)
  | 64 => (1, 0, 0, 65, 0)
  | 65 => (46, 9, 0, 68, 0)
  | 71 => (53, 0, 0, 72, 0)
  | 72 => (1, 0, 0, 73, 0)
  | 73 => (46, 9, 13, 76, 0)
  | 76 => (53, 0, 0, 77, 0)
  | 77 => (1, 0, 0, 78, 0)
  | 78 => (46, 9, 10, 81, 0)
  | 81 => (53, 0, 0, 82, 0)
  | 82 => (1, 0, 0, 83, 0)
  | 83 => (46, 9, 17, 86, 0)
  | 86 => (46, 8, 0, 89, 0)
  | 89 => (53, 0, 0, 90, 0)
  | 90 => (1, 0, 0, 91, 0)
  | 91 => (46, 9, 17, 94, 0)
  | 94 => (46, 8, 1, 97, 0)
  | 97 => (53, 0, 0, 98, 0)
  | 98 => (1, 0, 0, 99, 0)
  | 99 => (46, 9, 17, 102, 0)
  | 102 => (46, 8, 2, 105, 0)
  | 105 => (53, 0, 0, 106, 0)
  | 106 => (1, 0, 0, 107, 0)
  | 107 => (46, 9, 17, 110, 0)
  | 110 => (46, 8, 3, 113, 0)
  | 113 => (53, 0, 0, 114, 0)
  | 114 => (1, 0, 0, 115, 0)
  | 115 => (46, 9, 17, 118, 0)
  | 118 => (46, 8, 4, 121, 0)
  | 121 => (53, 0, 0, 122, 0)
  | 122 => (1, 0, 0, 123, 0)
  | 123 => (46, 9, 8, 126, 0)
  | 129 => (53, 0, 0, 130, 0)
  | 130 => (6, 0, 0, 131, (-1))
  | 131 => (53, 0, 0, 132, 0)
  | _ => (99, 0, 0, 0, 0)
def tX8_count (pc : Nat) : zI := if pc < 132 then tmX8_count pc else (99, 0, 0, 0, 0)
theorem tkX8_count : z_tab RX8 wsX8_count 2 (some .int) cX8_count 132 tX8_count := z_tab_of (tm := tmX8_count) (by decide +kernel)
theorem sX8_count_0 (lv : zL) (st : List Value) (w : zW) (nx K : Nat → zL → List Value → zW → Prop) (Rt : Option Value → zW → Prop) : z_st1 (tX8_count 0) 0 lv st w nx K Rt = (z_li lv 1 (fun x => nx 1 lv (.int x :: st) w)) := id rfl
theorem sX8_count_56 (lv : zL) (st : List Value) (w : zW) (nx K : Nat → zL → List Value → zW → Prop) (Rt : Option Value → zW → Prop) : z_st1 (tX8_count 56) 56 lv st w nx K Rt = (z_la lv 0 (fun x => nx 57 lv (.ref x :: st) w)) := id rfl
theorem sX8_count_57 (lv : zL) (st : List Value) (w : zW) (nx K : Nat → zL → List Value → zW → Prop) (Rt : Option Value → zW → Prop) : z_st1 (tX8_count 57) 57 lv st w nx K Rt = (z_1a st (fun x r => z_ob w x 9 (fun fs => z_fl fs 2 (fun u => nx 60 lv (u :: r) w)))) := id rfl
theorem sX8_count_63 (lv : zL) (st : List Value) (w : zW) (nx K : Nat → zL → List Value → zW → Prop) (Rt : Option Value → zW → Prop) : z_st1 (tX8_count 63) 63 lv st w nx K Rt = (z_e1 st (fun x => Rt (some (.int x)) w)) := id rfl
theorem sX8_count_64 (lv : zL) (st : List Value) (w : zW) (nx K : Nat → zL → List Value → zW → Prop) (Rt : Option Value → zW → Prop) : z_st1 (tX8_count 64) 64 lv st w nx K Rt = (z_la lv 0 (fun x => nx 65 lv (.ref x :: st) w)) := id rfl
theorem sX8_count_65 (lv : zL) (st : List Value) (w : zW) (nx K : Nat → zL → List Value → zW → Prop) (Rt : Option Value → zW → Prop) : z_st1 (tX8_count 65) 65 lv st w nx K Rt = (z_1a st (fun x r => z_ob w x 9 (fun fs => z_fl fs 0 (fun u => nx 68 lv (u :: r) w)))) := id rfl
theorem sX8_count_71 (lv : zL) (st : List Value) (w : zW) (nx K : Nat → zL → List Value → zW → Prop) (Rt : Option Value → zW → Prop) : z_st1 (tX8_count 71) 71 lv st w nx K Rt = (z_e1 st (fun x => Rt (some (.int x)) w)) := id rfl
theorem sX8_count_72 (lv : zL) (st : List Value) (w : zW) (nx K : Nat → zL → List Value → zW → Prop) (Rt : Option Value → zW → Prop) : z_st1 (tX8_count 72) 72 lv st w nx K Rt = (z_la lv 0 (fun x => nx 73 lv (.ref x :: st) w)) := id rfl
theorem sX8_count_73 (lv : zL) (st : List Value) (w : zW) (nx K : Nat → zL → List Value → zW → Prop) (Rt : Option Value → zW → Prop) : z_st1 (tX8_count 73) 73 lv st w nx K Rt = (z_1a st (fun x r => z_ob w x 9 (fun fs => z_fl fs 13 (fun u => nx 76 lv (u :: r) w)))) := id rfl
theorem sX8_count_76 (lv : zL) (st : List Value) (w : zW) (nx K : Nat → zL → List Value → zW → Prop) (Rt : Option Value → zW → Prop) : z_st1 (tX8_count 76) 76 lv st w nx K Rt = (z_e1 st (fun x => Rt (some (.int x)) w)) := id rfl
theorem sX8_count_77 (lv : zL) (st : List Value) (w : zW) (nx K : Nat → zL → List Value → zW → Prop) (Rt : Option Value → zW → Prop) : z_st1 (tX8_count 77) 77 lv st w nx K Rt = (z_la lv 0 (fun x => nx 78 lv (.ref x :: st) w)) := id rfl
theorem sX8_count_78 (lv : zL) (st : List Value) (w : zW) (nx K : Nat → zL → List Value → zW → Prop) (Rt : Option Value → zW → Prop) : z_st1 (tX8_count 78) 78 lv st w nx K Rt = (z_1a st (fun x r => z_ob w x 9 (fun fs => z_fl fs 10 (fun u => nx 81 lv (u :: r) w)))) := id rfl
theorem sX8_count_81 (lv : zL) (st : List Value) (w : zW) (nx K : Nat → zL → List Value → zW → Prop) (Rt : Option Value → zW → Prop) : z_st1 (tX8_count 81) 81 lv st w nx K Rt = (z_e1 st (fun x => Rt (some (.int x)) w)) := id rfl
theorem sX8_count_82 (lv : zL) (st : List Value) (w : zW) (nx K : Nat → zL → List Value → zW → Prop) (Rt : Option Value → zW → Prop) : z_st1 (tX8_count 82) 82 lv st w nx K Rt = (z_la lv 0 (fun x => nx 83 lv (.ref x :: st) w)) := id rfl
theorem sX8_count_83 (lv : zL) (st : List Value) (w : zW) (nx K : Nat → zL → List Value → zW → Prop) (Rt : Option Value → zW → Prop) : z_st1 (tX8_count 83) 83 lv st w nx K Rt = (z_1a st (fun x r => z_ob w x 9 (fun fs => z_fl fs 17 (fun u => nx 86 lv (u :: r) w)))) := id rfl
theorem sX8_count_86 (lv : zL) (st : List Value) (w : zW) (nx K : Nat → zL → List Value → zW → Prop) (Rt : Option Value → zW → Prop) : z_st1 (tX8_count 86) 86 lv st w nx K Rt = (z_1a st (fun x r => z_ob w x 8 (fun fs => z_fl fs 0 (fun u => nx 89 lv (u :: r) w)))) := id rfl
theorem sX8_count_89 (lv : zL) (st : List Value) (w : zW) (nx K : Nat → zL → List Value → zW → Prop) (Rt : Option Value → zW → Prop) : z_st1 (tX8_count 89) 89 lv st w nx K Rt = (z_e1 st (fun x => Rt (some (.int x)) w)) := id rfl
theorem sX8_count_90 (lv : zL) (st : List Value) (w : zW) (nx K : Nat → zL → List Value → zW → Prop) (Rt : Option Value → zW → Prop) : z_st1 (tX8_count 90) 90 lv st w nx K Rt = (z_la lv 0 (fun x => nx 91 lv (.ref x :: st) w)) := id rfl
theorem sX8_count_91 (lv : zL) (st : List Value) (w : zW) (nx K : Nat → zL → List Value → zW → Prop) (Rt : Option Value → zW → Prop) : z_st1 (tX8_count 91) 91 lv st w nx K Rt = (z_1a st (fun x r => z_ob w x 9 (fun fs => z_fl fs 17 (fun u => nx 94 lv (u :: r) w)))) := id rfl
theorem sX8_count_94 (lv : zL) (st : List Value) (w : zW) (nx K : Nat → zL → List Value → zW → Prop) (Rt : Option Value → zW → Prop) : z_st1 (tX8_count 94) 94 lv st w nx K Rt = (z_1a st (fun x r => z_ob w x 8 (fun fs => z_fl fs 1 (fun u => nx 97 lv (u :: r) w)))) := id rfl
theorem sX8_count_97 (lv : zL) (st : List Value) (w : zW) (nx K : Nat → zL → List Value → zW → Prop) (Rt : Option Value → zW → Prop) : z_st1 (tX8_count 97) 97 lv st w nx K Rt = (z_e1 st (fun x => Rt (some (.int x)) w)) := id rfl
theorem sX8_count_98 (lv : zL) (st : List Value) (w : zW) (nx K : Nat → zL → List Value → zW → Prop) (Rt : Option Value → zW → Prop) : z_st1 (tX8_count 98) 98 lv st w nx K Rt = (z_la lv 0 (fun x => nx 99 lv (.ref x :: st) w)) := id rfl
theorem sX8_count_99 (lv : zL) (st : List Value) (w : zW) (nx K : Nat → zL → List Value → zW → Prop) (Rt : Option Value → zW → Prop) : z_st1 (tX8_count 99) 99 lv st w nx K Rt = (z_1a st (fun x r => z_ob w x 9 (fun fs => z_fl fs 17 (fun u => nx 102 lv (u :: r) w)))) := id rfl
theorem sX8_count_102 (lv : zL) (st : List Value) (w : zW) (nx K : Nat → zL → List Value → zW → Prop) (Rt : Option Value → zW → Prop) : z_st1 (tX8_count 102) 102 lv st w nx K Rt = (z_1a st (fun x r => z_ob w x 8 (fun fs => z_fl fs 2 (fun u => nx 105 lv (u :: r) w)))) := id rfl
theorem sX8_count_105 (lv : zL) (st : List Value) (w : zW) (nx K : Nat → zL → List Value → zW → Prop) (Rt : Option Value → zW → Prop) : z_st1 (tX8_count 105) 105 lv st w nx K Rt = (z_e1 st (fun x => Rt (some (.int x)) w)) := id rfl
theorem sX8_count_106 (lv : zL) (st : List Value) (w : zW) (nx K : Nat → zL → List Value → zW → Prop) (Rt : Option Value → zW → Prop) : z_st1 (tX8_count 106) 106 lv st w nx K Rt = (z_la lv 0 (fun x => nx 107 lv (.ref x :: st) w)) := id rfl
theorem sX8_count_107 (lv : zL) (st : List Value) (w : zW) (nx K : Nat → zL → List Value → zW → Prop) (Rt : Option Value → zW → Prop) : z_st1 (tX8_count 107) 107 lv st w nx K Rt = (z_1a st (fun x r => z_ob w x 9 (fun fs => z_fl fs 17 (fun u => nx 110 lv (u :: r) w)))) := id rfl
theorem sX8_count_110 (lv : zL) (st : List Value) (w : zW) (nx K : Nat → zL → List Value → zW → Prop) (Rt : Option Value → zW → Prop) : z_st1 (tX8_count 110) 110 lv st w nx K Rt = (z_1a st (fun x r => z_ob w x 8 (fun fs => z_fl fs 3 (fun u => nx 113 lv (u :: r) w)))) := id rfl
theorem sX8_count_113 (lv : zL) (st : List Value) (w : zW) (nx K : Nat → zL → List Value → zW → Prop) (Rt : Option Value → zW → Prop) : z_st1 (tX8_count 113) 113 lv st w nx K Rt = (z_e1 st (fun x => Rt (some (.int x)) w)) := id rfl
theorem sX8_count_114 (lv : zL) (st : List Value) (w : zW) (nx K : Nat → zL → List Value → zW → Prop) (Rt : Option Value → zW → Prop) : z_st1 (tX8_count 114) 114 lv st w nx K Rt = (z_la lv 0 (fun x => nx 115 lv (.ref x :: st) w)) := id rfl
theorem sX8_count_115 (lv : zL) (st : List Value) (w : zW) (nx K : Nat → zL → List Value → zW → Prop) (Rt : Option Value → zW → Prop) : z_st1 (tX8_count 115) 115 lv st w nx K Rt = (z_1a st (fun x r => z_ob w x 9 (fun fs => z_fl fs 17 (fun u => nx 118 lv (u :: r) w)))) := id rfl
theorem sX8_count_118 (lv : zL) (st : List Value) (w : zW) (nx K : Nat → zL → List Value → zW → Prop) (Rt : Option Value → zW → Prop) : z_st1 (tX8_count 118) 118 lv st w nx K Rt = (z_1a st (fun x r => z_ob w x 8 (fun fs => z_fl fs 4 (fun u => nx 121 lv (u :: r) w)))) := id rfl
theorem sX8_count_121 (lv : zL) (st : List Value) (w : zW) (nx K : Nat → zL → List Value → zW → Prop) (Rt : Option Value → zW → Prop) : z_st1 (tX8_count 121) 121 lv st w nx K Rt = (z_e1 st (fun x => Rt (some (.int x)) w)) := id rfl
theorem sX8_count_122 (lv : zL) (st : List Value) (w : zW) (nx K : Nat → zL → List Value → zW → Prop) (Rt : Option Value → zW → Prop) : z_st1 (tX8_count 122) 122 lv st w nx K Rt = (z_la lv 0 (fun x => nx 123 lv (.ref x :: st) w)) := id rfl
theorem sX8_count_123 (lv : zL) (st : List Value) (w : zW) (nx K : Nat → zL → List Value → zW → Prop) (Rt : Option Value → zW → Prop) : z_st1 (tX8_count 123) 123 lv st w nx K Rt = (z_1a st (fun x r => z_ob w x 9 (fun fs => z_fl fs 8 (fun u => nx 126 lv (u :: r) w)))) := id rfl
theorem sX8_count_129 (lv : zL) (st : List Value) (w : zW) (nx K : Nat → zL → List Value → zW → Prop) (Rt : Option Value → zW → Prop) : z_st1 (tX8_count 129) 129 lv st w nx K Rt = (z_e1 st (fun x => Rt (some (.int x)) w)) := id rfl
theorem sX8_count_130 (lv : zL) (st : List Value) (w : zW) (nx K : Nat → zL → List Value → zW → Prop) (Rt : Option Value → zW → Prop) : z_st1 (tX8_count 130) 130 lv st w nx K Rt = (nx 131 lv (.int (-1 : Int32) :: st) w) := id rfl
theorem sX8_count_131 (lv : zL) (st : List Value) (w : zW) (nx K : Nat → zL → List Value → zW → Prop) (Rt : Option Value → zW → Prop) : z_st1 (tX8_count 131) 131 lv st w nx K Rt = (z_e1 st (fun x => Rt (some (.int x)) w)) := id rfl
theorem sX8_count_1 (lv : zL) (st : List Value) (w : zW) (nx K : Nat → zL → List Value → zW → Prop) (Rt : Option Value → zW → Prop) : z_st1 (tX8_count 1) 1 lv st w nx K Rt = K 1 lv st w := id rfl
theorem sX8_count_60 (lv : zL) (st : List Value) (w : zW) (nx K : Nat → zL → List Value → zW → Prop) (Rt : Option Value → zW → Prop) : z_st1 (tX8_count 60) 60 lv st w nx K Rt = K 60 lv st w := id rfl
theorem sX8_count_68 (lv : zL) (st : List Value) (w : zW) (nx K : Nat → zL → List Value → zW → Prop) (Rt : Option Value → zW → Prop) : z_st1 (tX8_count 68) 68 lv st w nx K Rt = K 68 lv st w := id rfl
theorem sX8_count_126 (lv : zL) (st : List Value) (w : zW) (nx K : Nat → zL → List Value → zW → Prop) (Rt : Option Value → zW → Prop) : z_st1 (tX8_count 126) 126 lv st w nx K Rt = K 126 lv st w := id rfl
theorem dX8_count_1 : decode cX8_count 1 = .ok (.tableswitch 129 0 9 #[55, 63, 71, 76, 81, 89, 97, 105, 113, 121], 55) := by decide +kernel
theorem dX8_count_60 : decode cX8_count 60 = .ok (.invokevirtual 214, 3) := by decide +kernel
theorem dX8_count_68 : decode cX8_count 68 = .ok (.invokevirtual 110, 3) := by decide +kernel
theorem dX8_count_126 : decode cX8_count 126 = .ok (.invokevirtual 226, 3) := by decide +kernel

def tmX8_isRecord (pc : Nat) : zI := match pc with
  | 0 => (0, 1, 0, 1, 0)
  | 1 => (6, 0, 0, 2, 1)
  | 2 => (42, 20, 0, 5, 0)
  | 5 => (0, 1, 0, 6, 0)
  | 6 => (1, 0, 0, 7, 0)
  | 7 => (46, 9, 0, 10, 0)
  | 13 => (44, 20, 0, 16, 0)
  | 16 => (6, 0, 0, 17, 1)
  | 17 => (33, 21, 0, 20, 0)
  | 20 => (6, 0, 0, 21, 0)
  | 21 => (58, 0, 0, 22, 0)
  | _ => (99, 0, 0, 0, 0)
def tX8_isRecord (pc : Nat) : zI := if pc < 22 then tmX8_isRecord pc else (99, 0, 0, 0, 0)
theorem tkX8_isRecord : z_tab RX8 wsX8_isRecord 2 (some .boolean) cX8_isRecord 22 tX8_isRecord := z_tab_of (tm := tmX8_isRecord) (by decide +kernel)
theorem sX8_isRecord_0 (lv : zL) (st : List Value) (w : zW) (nx K : Nat → zL → List Value → zW → Prop) (Rt : Option Value → zW → Prop) : z_st1 (tX8_isRecord 0) 0 lv st w nx K Rt = (z_li lv 1 (fun x => nx 1 lv (.int x :: st) w)) := id rfl
theorem sX8_isRecord_1 (lv : zL) (st : List Value) (w : zW) (nx K : Nat → zL → List Value → zW → Prop) (Rt : Option Value → zW → Prop) : z_st1 (tX8_isRecord 1) 1 lv st w nx K Rt = (nx 2 lv (.int (1 : Int32) :: st) w) := id rfl
theorem sX8_isRecord_2 (lv : zL) (st : List Value) (w : zW) (nx K : Nat → zL → List Value → zW → Prop) (Rt : Option Value → zW → Prop) : z_st1 (tX8_isRecord 2) 2 lv st w nx K Rt = (z_2i st (fun x y r => (x < y → nx 20 lv r w) ∧ (¬ x < y → nx 5 lv r w))) := id rfl
theorem sX8_isRecord_5 (lv : zL) (st : List Value) (w : zW) (nx K : Nat → zL → List Value → zW → Prop) (Rt : Option Value → zW → Prop) : z_st1 (tX8_isRecord 5) 5 lv st w nx K Rt = (z_li lv 1 (fun x => nx 6 lv (.int x :: st) w)) := id rfl
theorem sX8_isRecord_6 (lv : zL) (st : List Value) (w : zW) (nx K : Nat → zL → List Value → zW → Prop) (Rt : Option Value → zW → Prop) : z_st1 (tX8_isRecord 6) 6 lv st w nx K Rt = (z_la lv 0 (fun x => nx 7 lv (.ref x :: st) w)) := id rfl
theorem sX8_isRecord_7 (lv : zL) (st : List Value) (w : zW) (nx K : Nat → zL → List Value → zW → Prop) (Rt : Option Value → zW → Prop) : z_st1 (tX8_isRecord 7) 7 lv st w nx K Rt = (z_1a st (fun x r => z_ob w x 9 (fun fs => z_fl fs 0 (fun u => nx 10 lv (u :: r) w)))) := id rfl
theorem sX8_isRecord_13 (lv : zL) (st : List Value) (w : zW) (nx K : Nat → zL → List Value → zW → Prop) (Rt : Option Value → zW → Prop) : z_st1 (tX8_isRecord 13) 13 lv st w nx K Rt = (z_2i st (fun x y r => (y < x → nx 20 lv r w) ∧ (¬ y < x → nx 16 lv r w))) := id rfl
theorem sX8_isRecord_16 (lv : zL) (st : List Value) (w : zW) (nx K : Nat → zL → List Value → zW → Prop) (Rt : Option Value → zW → Prop) : z_st1 (tX8_isRecord 16) 16 lv st w nx K Rt = (nx 17 lv (.int (1 : Int32) :: st) w) := id rfl
theorem sX8_isRecord_17 (lv : zL) (st : List Value) (w : zW) (nx K : Nat → zL → List Value → zW → Prop) (Rt : Option Value → zW → Prop) : z_st1 (tX8_isRecord 17) 17 lv st w nx K Rt = (nx 21 lv st w) := id rfl
theorem sX8_isRecord_20 (lv : zL) (st : List Value) (w : zW) (nx K : Nat → zL → List Value → zW → Prop) (Rt : Option Value → zW → Prop) : z_st1 (tX8_isRecord 20) 20 lv st w nx K Rt = (nx 21 lv (.int (0 : Int32) :: st) w) := id rfl
theorem sX8_isRecord_21 (lv : zL) (st : List Value) (w : zW) (nx K : Nat → zL → List Value → zW → Prop) (Rt : Option Value → zW → Prop) : z_st1 (tX8_isRecord 21) 21 lv st w nx K Rt = (z_e1 st (fun x => (x = 0 ∨ x = 1) ∧ Rt (some (.int x)) w)) := id rfl
theorem sX8_isRecord_10 (lv : zL) (st : List Value) (w : zW) (nx K : Nat → zL → List Value → zW → Prop) (Rt : Option Value → zW → Prop) : z_st1 (tX8_isRecord 10) 10 lv st w nx K Rt = K 10 lv st w := id rfl
theorem dX8_isRecord_10 : decode cX8_isRecord 10 = .ok (.invokevirtual 110, 3) := by decide +kernel

def tmX8_isField (pc : Nat) : zI := match pc with
  | 0 => (0, 0, 0, 1, 0)
  | 1 => (36, 32, 0, 4, 0)
  | 4 => (0, 0, 0, 5, 0)
  | 5 => (6, 0, 0, 7, 32)
  | 7 => (43, 32, 0, 10, 0)
  | 10 => (0, 1, 0, 11, 0)
  | 11 => (6, 0, 0, 12, 1)
  | 12 => (42, 32, 0, 15, 0)
  | 15 => (0, 1, 0, 16, 0)
  | 16 => (0, 2, 0, 17, 0)
  | 17 => (44, 32, 0, 20, 0)
  | 20 => (0, 1, 0, 21, 0)
  | 21 => (6, 0, 0, 23, 32)
  | 23 => (0, 0, 0, 24, 0)
  | 24 => (9, 0, 0, 25, 0)
  | 25 => (44, 32, 0, 28, 0)
  | 28 => (6, 0, 0, 29, 1)
  | 29 => (33, 33, 0, 32, 0)
  | 32 => (6, 0, 0, 33, 0)
  | 33 => (58, 0, 0, 34, 0)
  | _ => (99, 0, 0, 0, 0)
def tX8_isField (pc : Nat) : zI := if pc < 34 then tmX8_isField pc else (99, 0, 0, 0, 0)
theorem tkX8_isField : z_tab RX8 wsX8_isField 3 (some .boolean) cX8_isField 34 tX8_isField := z_tab_of (tm := tmX8_isField) (by decide +kernel)
theorem sX8_isField_0 (lv : zL) (st : List Value) (w : zW) (nx K : Nat → zL → List Value → zW → Prop) (Rt : Option Value → zW → Prop) : z_st1 (tX8_isField 0) 0 lv st w nx K Rt = (z_li lv 0 (fun x => nx 1 lv (.int x :: st) w)) := id rfl
theorem sX8_isField_1 (lv : zL) (st : List Value) (w : zW) (nx K : Nat → zL → List Value → zW → Prop) (Rt : Option Value → zW → Prop) : z_st1 (tX8_isField 1) 1 lv st w nx K Rt = (z_1i st (fun x r => (x < 0 → nx 32 lv r w) ∧ (¬ x < 0 → nx 4 lv r w))) := id rfl
theorem sX8_isField_4 (lv : zL) (st : List Value) (w : zW) (nx K : Nat → zL → List Value → zW → Prop) (Rt : Option Value → zW → Prop) : z_st1 (tX8_isField 4) 4 lv st w nx K Rt = (z_li lv 0 (fun x => nx 5 lv (.int x :: st) w)) := id rfl
theorem sX8_isField_5 (lv : zL) (st : List Value) (w : zW) (nx K : Nat → zL → List Value → zW → Prop) (Rt : Option Value → zW → Prop) : z_st1 (tX8_isField 5) 5 lv st w nx K Rt = (nx 7 lv (.int (32 : Int32) :: st) w) := id rfl
theorem sX8_isField_7 (lv : zL) (st : List Value) (w : zW) (nx K : Nat → zL → List Value → zW → Prop) (Rt : Option Value → zW → Prop) : z_st1 (tX8_isField 7) 7 lv st w nx K Rt = (z_2i st (fun x y r => (y ≤ x → nx 32 lv r w) ∧ (¬ y ≤ x → nx 10 lv r w))) := id rfl
theorem sX8_isField_10 (lv : zL) (st : List Value) (w : zW) (nx K : Nat → zL → List Value → zW → Prop) (Rt : Option Value → zW → Prop) : z_st1 (tX8_isField 10) 10 lv st w nx K Rt = (z_li lv 1 (fun x => nx 11 lv (.int x :: st) w)) := id rfl
theorem sX8_isField_11 (lv : zL) (st : List Value) (w : zW) (nx K : Nat → zL → List Value → zW → Prop) (Rt : Option Value → zW → Prop) : z_st1 (tX8_isField 11) 11 lv st w nx K Rt = (nx 12 lv (.int (1 : Int32) :: st) w) := id rfl
theorem sX8_isField_12 (lv : zL) (st : List Value) (w : zW) (nx K : Nat → zL → List Value → zW → Prop) (Rt : Option Value → zW → Prop) : z_st1 (tX8_isField 12) 12 lv st w nx K Rt = (z_2i st (fun x y r => (x < y → nx 32 lv r w) ∧ (¬ x < y → nx 15 lv r w))) := id rfl
theorem sX8_isField_15 (lv : zL) (st : List Value) (w : zW) (nx K : Nat → zL → List Value → zW → Prop) (Rt : Option Value → zW → Prop) : z_st1 (tX8_isField 15) 15 lv st w nx K Rt = (z_li lv 1 (fun x => nx 16 lv (.int x :: st) w)) := id rfl
theorem sX8_isField_16 (lv : zL) (st : List Value) (w : zW) (nx K : Nat → zL → List Value → zW → Prop) (Rt : Option Value → zW → Prop) : z_st1 (tX8_isField 16) 16 lv st w nx K Rt = (z_li lv 2 (fun x => nx 17 lv (.int x :: st) w)) := id rfl
theorem sX8_isField_17 (lv : zL) (st : List Value) (w : zW) (nx K : Nat → zL → List Value → zW → Prop) (Rt : Option Value → zW → Prop) : z_st1 (tX8_isField 17) 17 lv st w nx K Rt = (z_2i st (fun x y r => (y < x → nx 32 lv r w) ∧ (¬ y < x → nx 20 lv r w))) := id rfl
theorem sX8_isField_20 (lv : zL) (st : List Value) (w : zW) (nx K : Nat → zL → List Value → zW → Prop) (Rt : Option Value → zW → Prop) : z_st1 (tX8_isField 20) 20 lv st w nx K Rt = (z_li lv 1 (fun x => nx 21 lv (.int x :: st) w)) := id rfl
theorem sX8_isField_21 (lv : zL) (st : List Value) (w : zW) (nx K : Nat → zL → List Value → zW → Prop) (Rt : Option Value → zW → Prop) : z_st1 (tX8_isField 21) 21 lv st w nx K Rt = (nx 23 lv (.int (32 : Int32) :: st) w) := id rfl
theorem sX8_isField_23 (lv : zL) (st : List Value) (w : zW) (nx K : Nat → zL → List Value → zW → Prop) (Rt : Option Value → zW → Prop) : z_st1 (tX8_isField 23) 23 lv st w nx K Rt = (z_li lv 0 (fun x => nx 24 lv (.int x :: st) w)) := id rfl
theorem sX8_isField_24 (lv : zL) (st : List Value) (w : zW) (nx K : Nat → zL → List Value → zW → Prop) (Rt : Option Value → zW → Prop) : z_st1 (tX8_isField 24) 24 lv st w nx K Rt = (z_2i st (fun x y r => nx 25 lv (.int (x - y) :: r) w)) := id rfl
theorem sX8_isField_25 (lv : zL) (st : List Value) (w : zW) (nx K : Nat → zL → List Value → zW → Prop) (Rt : Option Value → zW → Prop) : z_st1 (tX8_isField 25) 25 lv st w nx K Rt = (z_2i st (fun x y r => (y < x → nx 32 lv r w) ∧ (¬ y < x → nx 28 lv r w))) := id rfl
theorem sX8_isField_28 (lv : zL) (st : List Value) (w : zW) (nx K : Nat → zL → List Value → zW → Prop) (Rt : Option Value → zW → Prop) : z_st1 (tX8_isField 28) 28 lv st w nx K Rt = (nx 29 lv (.int (1 : Int32) :: st) w) := id rfl
theorem sX8_isField_29 (lv : zL) (st : List Value) (w : zW) (nx K : Nat → zL → List Value → zW → Prop) (Rt : Option Value → zW → Prop) : z_st1 (tX8_isField 29) 29 lv st w nx K Rt = (nx 33 lv st w) := id rfl
theorem sX8_isField_32 (lv : zL) (st : List Value) (w : zW) (nx K : Nat → zL → List Value → zW → Prop) (Rt : Option Value → zW → Prop) : z_st1 (tX8_isField 32) 32 lv st w nx K Rt = (nx 33 lv (.int (0 : Int32) :: st) w) := id rfl
theorem sX8_isField_33 (lv : zL) (st : List Value) (w : zW) (nx K : Nat → zL → List Value → zW → Prop) (Rt : Option Value → zW → Prop) : z_st1 (tX8_isField 33) 33 lv st w nx K Rt = (z_e1 st (fun x => (x = 0 ∨ x = 1) ∧ Rt (some (.int x)) w)) := id rfl

def tmX8_takeIn (pc : Nat) : zI := match pc with
  | 0 => (1, 0, 0, 1, 0)
  | 1 => (46, 9, 1, 4, 0)
  | 7 => (1, 0, 0, 8, 0)
  | 8 => (46, 9, 3, 11, 0)
  | 14 => (1, 0, 0, 15, 0)
  | 15 => (46, 9, 6, 18, 0)
  | 21 => (6, 0, 0, 22, 0)
  | 22 => (3, 1, 0, 23, 0)
  | 23 => (0, 1, 0, 24, 0)
  | 24 => (1, 0, 0, 25, 0)
  | 25 => (46, 9, 10, 28, 0)
  | 28 => (43, 154, 0, 31, 0)
  | 31 => (1, 0, 0, 32, 0)
  | 32 => (46, 9, 9, 35, 0)
  | 35 => (0, 1, 0, 36, 0)
  | 36 => (48, 0, 0, 37, 0)
  | 37 => (6, 0, 0, 38, 1)
  | 38 => (9, 0, 0, 39, 0)
  | 39 => (3, 2, 0, 40, 0)
  | 40 => (1, 0, 0, 41, 0)
  | 41 => (46, 9, 4, 44, 0)
  | 44 => (1, 0, 0, 45, 0)
  | 45 => (46, 9, 0, 48, 0)
  | 48 => (0, 2, 0, 49, 0)
  | 52 => (35, 71, 0, 55, 0)
  | 55 => (1, 0, 0, 56, 0)
  | 56 => (46, 9, 18, 59, 0)
  | 59 => (29, 0, 0, 60, 0)
  | 60 => (46, 8, 2, 63, 0)
  | 63 => (6, 0, 0, 64, 1)
  | 64 => (8, 0, 0, 65, 0)
  | 65 => (47, 8, 2, 68, 0)
  | 68 => (33, 148, 0, 71, 0)
  | 71 => (1, 0, 0, 72, 0)
  | 72 => (46, 9, 1, 75, 0)
  | 75 => (1, 0, 0, 76, 0)
  | 76 => (46, 9, 0, 79, 0)
  | 79 => (0, 2, 0, 80, 0)
  | 83 => (3, 3, 0, 84, 0)
  | 84 => (1, 0, 0, 85, 0)
  | 85 => (46, 9, 6, 88, 0)
  | 88 => (1, 0, 0, 89, 0)
  | 89 => (46, 9, 1, 92, 0)
  | 92 => (0, 3, 0, 93, 0)
  | 96 => (3, 4, 0, 98, 0)
  | 98 => (0, 4, 0, 100, 0)
  | 100 => (6, 0, 0, 101, 2)
  | 101 => (41, 111, 0, 104, 0)
  | 104 => (1, 0, 0, 105, 0)
  | 105 => (46, 9, 9, 108, 0)
  | 108 => (0, 1, 0, 109, 0)
  | 109 => (48, 0, 0, 110, 0)
  | 110 => (53, 0, 0, 111, 0)
  | 111 => (0, 4, 0, 113, 0)
  | 113 => (6, 0, 0, 114, 1)
  | 114 => (41, 140, 0, 117, 0)
  | 117 => (1, 0, 0, 118, 0)
  | 118 => (46, 9, 1, 121, 0)
  | 124 => (1, 0, 0, 125, 0)
  | 125 => (46, 9, 18, 128, 0)
  | 128 => (29, 0, 0, 129, 0)
  | 129 => (46, 8, 2, 132, 0)
  | 132 => (6, 0, 0, 133, 1)
  | 133 => (8, 0, 0, 134, 0)
  | 134 => (47, 8, 2, 137, 0)
  | 137 => (33, 148, 0, 140, 0)
  | 140 => (1, 0, 0, 141, 0)
  | 141 => (46, 9, 3, 144, 0)
  | 144 => (0, 3, 0, 145, 0)
  | 148 => (7, 1, 0, 151, 1)
  | 151 => (33, 23, 0, 154, 0)
  | 154 => (6, 0, 0, 155, (-1))
  | 155 => (53, 0, 0, 156, 0)
  | _ => (99, 0, 0, 0, 0)
def tX8_takeIn (pc : Nat) : zI := if pc < 156 then tmX8_takeIn pc else (99, 0, 0, 0, 0)
theorem tkX8_takeIn : z_tab RX8 wsX8_takeIn 5 (some .int) cX8_takeIn 156 tX8_takeIn := z_tab_of (tm := tmX8_takeIn) (by decide +kernel)
theorem sX8_takeIn_0 (lv : zL) (st : List Value) (w : zW) (nx K : Nat → zL → List Value → zW → Prop) (Rt : Option Value → zW → Prop) : z_st1 (tX8_takeIn 0) 0 lv st w nx K Rt = (z_la lv 0 (fun x => nx 1 lv (.ref x :: st) w)) := id rfl
theorem sX8_takeIn_1 (lv : zL) (st : List Value) (w : zW) (nx K : Nat → zL → List Value → zW → Prop) (Rt : Option Value → zW → Prop) : z_st1 (tX8_takeIn 1) 1 lv st w nx K Rt = (z_1a st (fun x r => z_ob w x 9 (fun fs => z_fl fs 1 (fun u => nx 4 lv (u :: r) w)))) := id rfl
theorem sX8_takeIn_7 (lv : zL) (st : List Value) (w : zW) (nx K : Nat → zL → List Value → zW → Prop) (Rt : Option Value → zW → Prop) : z_st1 (tX8_takeIn 7) 7 lv st w nx K Rt = (z_la lv 0 (fun x => nx 8 lv (.ref x :: st) w)) := id rfl
theorem sX8_takeIn_8 (lv : zL) (st : List Value) (w : zW) (nx K : Nat → zL → List Value → zW → Prop) (Rt : Option Value → zW → Prop) : z_st1 (tX8_takeIn 8) 8 lv st w nx K Rt = (z_1a st (fun x r => z_ob w x 9 (fun fs => z_fl fs 3 (fun u => nx 11 lv (u :: r) w)))) := id rfl
theorem sX8_takeIn_14 (lv : zL) (st : List Value) (w : zW) (nx K : Nat → zL → List Value → zW → Prop) (Rt : Option Value → zW → Prop) : z_st1 (tX8_takeIn 14) 14 lv st w nx K Rt = (z_la lv 0 (fun x => nx 15 lv (.ref x :: st) w)) := id rfl
theorem sX8_takeIn_15 (lv : zL) (st : List Value) (w : zW) (nx K : Nat → zL → List Value → zW → Prop) (Rt : Option Value → zW → Prop) : z_st1 (tX8_takeIn 15) 15 lv st w nx K Rt = (z_1a st (fun x r => z_ob w x 9 (fun fs => z_fl fs 6 (fun u => nx 18 lv (u :: r) w)))) := id rfl
theorem sX8_takeIn_21 (lv : zL) (st : List Value) (w : zW) (nx K : Nat → zL → List Value → zW → Prop) (Rt : Option Value → zW → Prop) : z_st1 (tX8_takeIn 21) 21 lv st w nx K Rt = (nx 22 lv (.int (0 : Int32) :: st) w) := id rfl
theorem sX8_takeIn_22 (lv : zL) (st : List Value) (w : zW) (nx K : Nat → zL → List Value → zW → Prop) (Rt : Option Value → zW → Prop) : z_st1 (tX8_takeIn 22) 22 lv st w nx K Rt = (z_1i st (fun x r => z_ok1 lv 1 = true ∧ nx 23 (lv.set 1 (some (.int x))) r w)) := id rfl
theorem sX8_takeIn_23 (lv : zL) (st : List Value) (w : zW) (nx K : Nat → zL → List Value → zW → Prop) (Rt : Option Value → zW → Prop) : z_st1 (tX8_takeIn 23) 23 lv st w nx K Rt = (z_li lv 1 (fun x => nx 24 lv (.int x :: st) w)) := id rfl
theorem sX8_takeIn_24 (lv : zL) (st : List Value) (w : zW) (nx K : Nat → zL → List Value → zW → Prop) (Rt : Option Value → zW → Prop) : z_st1 (tX8_takeIn 24) 24 lv st w nx K Rt = (z_la lv 0 (fun x => nx 25 lv (.ref x :: st) w)) := id rfl
theorem sX8_takeIn_25 (lv : zL) (st : List Value) (w : zW) (nx K : Nat → zL → List Value → zW → Prop) (Rt : Option Value → zW → Prop) : z_st1 (tX8_takeIn 25) 25 lv st w nx K Rt = (z_1a st (fun x r => z_ob w x 9 (fun fs => z_fl fs 10 (fun u => nx 28 lv (u :: r) w)))) := id rfl
theorem sX8_takeIn_28 (lv : zL) (st : List Value) (w : zW) (nx K : Nat → zL → List Value → zW → Prop) (Rt : Option Value → zW → Prop) : z_st1 (tX8_takeIn 28) 28 lv st w nx K Rt = (z_2i st (fun x y r => (y ≤ x → nx 154 lv r w) ∧ (¬ y ≤ x → nx 31 lv r w))) := id rfl
theorem sX8_takeIn_31 (lv : zL) (st : List Value) (w : zW) (nx K : Nat → zL → List Value → zW → Prop) (Rt : Option Value → zW → Prop) : z_st1 (tX8_takeIn 31) 31 lv st w nx K Rt = (z_la lv 0 (fun x => nx 32 lv (.ref x :: st) w)) := id rfl
theorem sX8_takeIn_32 (lv : zL) (st : List Value) (w : zW) (nx K : Nat → zL → List Value → zW → Prop) (Rt : Option Value → zW → Prop) : z_st1 (tX8_takeIn 32) 32 lv st w nx K Rt = (z_1a st (fun x r => z_ob w x 9 (fun fs => z_fl fs 9 (fun u => nx 35 lv (u :: r) w)))) := id rfl
theorem sX8_takeIn_35 (lv : zL) (st : List Value) (w : zW) (nx K : Nat → zL → List Value → zW → Prop) (Rt : Option Value → zW → Prop) : z_st1 (tX8_takeIn 35) 35 lv st w nx K Rt = (z_li lv 1 (fun x => nx 36 lv (.int x :: st) w)) := id rfl
theorem sX8_takeIn_36 (lv : zL) (st : List Value) (w : zW) (nx K : Nat → zL → List Value → zW → Prop) (Rt : Option Value → zW → Prop) : z_st1 (tX8_takeIn 36) 36 lv st w nx K Rt = (z_ia st (fun x i r => z_ar0 w x (fun m g => vp_in i m ∧ nx 37 lv (.int (g i.toNatClampNeg) :: r) w))) := id rfl
theorem sX8_takeIn_37 (lv : zL) (st : List Value) (w : zW) (nx K : Nat → zL → List Value → zW → Prop) (Rt : Option Value → zW → Prop) : z_st1 (tX8_takeIn 37) 37 lv st w nx K Rt = (nx 38 lv (.int (1 : Int32) :: st) w) := id rfl
theorem sX8_takeIn_38 (lv : zL) (st : List Value) (w : zW) (nx K : Nat → zL → List Value → zW → Prop) (Rt : Option Value → zW → Prop) : z_st1 (tX8_takeIn 38) 38 lv st w nx K Rt = (z_2i st (fun x y r => nx 39 lv (.int (x - y) :: r) w)) := id rfl
theorem sX8_takeIn_39 (lv : zL) (st : List Value) (w : zW) (nx K : Nat → zL → List Value → zW → Prop) (Rt : Option Value → zW → Prop) : z_st1 (tX8_takeIn 39) 39 lv st w nx K Rt = (z_1i st (fun x r => z_ok1 lv 2 = true ∧ nx 40 (lv.set 2 (some (.int x))) r w)) := id rfl
theorem sX8_takeIn_40 (lv : zL) (st : List Value) (w : zW) (nx K : Nat → zL → List Value → zW → Prop) (Rt : Option Value → zW → Prop) : z_st1 (tX8_takeIn 40) 40 lv st w nx K Rt = (z_la lv 0 (fun x => nx 41 lv (.ref x :: st) w)) := id rfl
theorem sX8_takeIn_41 (lv : zL) (st : List Value) (w : zW) (nx K : Nat → zL → List Value → zW → Prop) (Rt : Option Value → zW → Prop) : z_st1 (tX8_takeIn 41) 41 lv st w nx K Rt = (z_1a st (fun x r => z_ob w x 9 (fun fs => z_fl fs 4 (fun u => nx 44 lv (u :: r) w)))) := id rfl
theorem sX8_takeIn_44 (lv : zL) (st : List Value) (w : zW) (nx K : Nat → zL → List Value → zW → Prop) (Rt : Option Value → zW → Prop) : z_st1 (tX8_takeIn 44) 44 lv st w nx K Rt = (z_la lv 0 (fun x => nx 45 lv (.ref x :: st) w)) := id rfl
theorem sX8_takeIn_45 (lv : zL) (st : List Value) (w : zW) (nx K : Nat → zL → List Value → zW → Prop) (Rt : Option Value → zW → Prop) : z_st1 (tX8_takeIn 45) 45 lv st w nx K Rt = (z_1a st (fun x r => z_ob w x 9 (fun fs => z_fl fs 0 (fun u => nx 48 lv (u :: r) w)))) := id rfl
theorem sX8_takeIn_48 (lv : zL) (st : List Value) (w : zW) (nx K : Nat → zL → List Value → zW → Prop) (Rt : Option Value → zW → Prop) : z_st1 (tX8_takeIn 48) 48 lv st w nx K Rt = (z_li lv 2 (fun x => nx 49 lv (.int x :: st) w)) := id rfl
theorem sX8_takeIn_52 (lv : zL) (st : List Value) (w : zW) (nx K : Nat → zL → List Value → zW → Prop) (Rt : Option Value → zW → Prop) : z_st1 (tX8_takeIn 52) 52 lv st w nx K Rt = (z_1i st (fun x r => (¬ x = 0 → nx 71 lv r w) ∧ (x = 0 → nx 55 lv r w))) := id rfl
theorem sX8_takeIn_55 (lv : zL) (st : List Value) (w : zW) (nx K : Nat → zL → List Value → zW → Prop) (Rt : Option Value → zW → Prop) : z_st1 (tX8_takeIn 55) 55 lv st w nx K Rt = (z_la lv 0 (fun x => nx 56 lv (.ref x :: st) w)) := id rfl
theorem sX8_takeIn_56 (lv : zL) (st : List Value) (w : zW) (nx K : Nat → zL → List Value → zW → Prop) (Rt : Option Value → zW → Prop) : z_st1 (tX8_takeIn 56) 56 lv st w nx K Rt = (z_1a st (fun x r => z_ob w x 9 (fun fs => z_fl fs 18 (fun u => nx 59 lv (u :: r) w)))) := id rfl
theorem sX8_takeIn_59 (lv : zL) (st : List Value) (w : zW) (nx K : Nat → zL → List Value → zW → Prop) (Rt : Option Value → zW → Prop) : z_st1 (tX8_takeIn 59) 59 lv st w nx K Rt = (z_d1 st (fun x r => nx 60 lv (x :: x :: r) w)) := id rfl
theorem sX8_takeIn_60 (lv : zL) (st : List Value) (w : zW) (nx K : Nat → zL → List Value → zW → Prop) (Rt : Option Value → zW → Prop) : z_st1 (tX8_takeIn 60) 60 lv st w nx K Rt = (z_1a st (fun x r => z_ob w x 8 (fun fs => z_fl fs 2 (fun u => nx 63 lv (u :: r) w)))) := id rfl
theorem sX8_takeIn_63 (lv : zL) (st : List Value) (w : zW) (nx K : Nat → zL → List Value → zW → Prop) (Rt : Option Value → zW → Prop) : z_st1 (tX8_takeIn 63) 63 lv st w nx K Rt = (nx 64 lv (.int (1 : Int32) :: st) w) := id rfl
theorem sX8_takeIn_64 (lv : zL) (st : List Value) (w : zW) (nx K : Nat → zL → List Value → zW → Prop) (Rt : Option Value → zW → Prop) : z_st1 (tX8_takeIn 64) 64 lv st w nx K Rt = (z_2i st (fun x y r => nx 65 lv (.int (x + y) :: r) w)) := id rfl
theorem sX8_takeIn_65 (lv : zL) (st : List Value) (w : zW) (nx K : Nat → zL → List Value → zW → Prop) (Rt : Option Value → zW → Prop) : z_st1 (tX8_takeIn 65) 65 lv st w nx K Rt = (z_ia st (fun x i r => z_ob w x 8 (fun fs => 2 < fs.length ∧ nx 68 lv r (z_up w x (.inr (8, fs.set 2 (.int i))))))) := id rfl
theorem sX8_takeIn_68 (lv : zL) (st : List Value) (w : zW) (nx K : Nat → zL → List Value → zW → Prop) (Rt : Option Value → zW → Prop) : z_st1 (tX8_takeIn 68) 68 lv st w nx K Rt = (nx 148 lv st w) := id rfl
theorem sX8_takeIn_71 (lv : zL) (st : List Value) (w : zW) (nx K : Nat → zL → List Value → zW → Prop) (Rt : Option Value → zW → Prop) : z_st1 (tX8_takeIn 71) 71 lv st w nx K Rt = (z_la lv 0 (fun x => nx 72 lv (.ref x :: st) w)) := id rfl
theorem sX8_takeIn_72 (lv : zL) (st : List Value) (w : zW) (nx K : Nat → zL → List Value → zW → Prop) (Rt : Option Value → zW → Prop) : z_st1 (tX8_takeIn 72) 72 lv st w nx K Rt = (z_1a st (fun x r => z_ob w x 9 (fun fs => z_fl fs 1 (fun u => nx 75 lv (u :: r) w)))) := id rfl
theorem sX8_takeIn_75 (lv : zL) (st : List Value) (w : zW) (nx K : Nat → zL → List Value → zW → Prop) (Rt : Option Value → zW → Prop) : z_st1 (tX8_takeIn 75) 75 lv st w nx K Rt = (z_la lv 0 (fun x => nx 76 lv (.ref x :: st) w)) := id rfl
theorem sX8_takeIn_76 (lv : zL) (st : List Value) (w : zW) (nx K : Nat → zL → List Value → zW → Prop) (Rt : Option Value → zW → Prop) : z_st1 (tX8_takeIn 76) 76 lv st w nx K Rt = (z_1a st (fun x r => z_ob w x 9 (fun fs => z_fl fs 0 (fun u => nx 79 lv (u :: r) w)))) := id rfl
theorem sX8_takeIn_79 (lv : zL) (st : List Value) (w : zW) (nx K : Nat → zL → List Value → zW → Prop) (Rt : Option Value → zW → Prop) : z_st1 (tX8_takeIn 79) 79 lv st w nx K Rt = (z_li lv 2 (fun x => nx 80 lv (.int x :: st) w)) := id rfl
theorem sX8_takeIn_83 (lv : zL) (st : List Value) (w : zW) (nx K : Nat → zL → List Value → zW → Prop) (Rt : Option Value → zW → Prop) : z_st1 (tX8_takeIn 83) 83 lv st w nx K Rt = (z_1i st (fun x r => z_ok1 lv 3 = true ∧ nx 84 (lv.set 3 (some (.int x))) r w)) := id rfl
theorem sX8_takeIn_84 (lv : zL) (st : List Value) (w : zW) (nx K : Nat → zL → List Value → zW → Prop) (Rt : Option Value → zW → Prop) : z_st1 (tX8_takeIn 84) 84 lv st w nx K Rt = (z_la lv 0 (fun x => nx 85 lv (.ref x :: st) w)) := id rfl
theorem sX8_takeIn_85 (lv : zL) (st : List Value) (w : zW) (nx K : Nat → zL → List Value → zW → Prop) (Rt : Option Value → zW → Prop) : z_st1 (tX8_takeIn 85) 85 lv st w nx K Rt = (z_1a st (fun x r => z_ob w x 9 (fun fs => z_fl fs 6 (fun u => nx 88 lv (u :: r) w)))) := id rfl
theorem sX8_takeIn_88 (lv : zL) (st : List Value) (w : zW) (nx K : Nat → zL → List Value → zW → Prop) (Rt : Option Value → zW → Prop) : z_st1 (tX8_takeIn 88) 88 lv st w nx K Rt = (z_la lv 0 (fun x => nx 89 lv (.ref x :: st) w)) := id rfl
theorem sX8_takeIn_89 (lv : zL) (st : List Value) (w : zW) (nx K : Nat → zL → List Value → zW → Prop) (Rt : Option Value → zW → Prop) : z_st1 (tX8_takeIn 89) 89 lv st w nx K Rt = (z_1a st (fun x r => z_ob w x 9 (fun fs => z_fl fs 1 (fun u => nx 92 lv (u :: r) w)))) := id rfl
theorem sX8_takeIn_92 (lv : zL) (st : List Value) (w : zW) (nx K : Nat → zL → List Value → zW → Prop) (Rt : Option Value → zW → Prop) : z_st1 (tX8_takeIn 92) 92 lv st w nx K Rt = (z_li lv 3 (fun x => nx 93 lv (.int x :: st) w)) := id rfl
theorem sX8_takeIn_96 (lv : zL) (st : List Value) (w : zW) (nx K : Nat → zL → List Value → zW → Prop) (Rt : Option Value → zW → Prop) : z_st1 (tX8_takeIn 96) 96 lv st w nx K Rt = (z_1i st (fun x r => z_ok1 lv 4 = true ∧ nx 98 (lv.set 4 (some (.int x))) r w)) := id rfl
theorem sX8_takeIn_98 (lv : zL) (st : List Value) (w : zW) (nx K : Nat → zL → List Value → zW → Prop) (Rt : Option Value → zW → Prop) : z_st1 (tX8_takeIn 98) 98 lv st w nx K Rt = (z_li lv 4 (fun x => nx 100 lv (.int x :: st) w)) := id rfl
theorem sX8_takeIn_100 (lv : zL) (st : List Value) (w : zW) (nx K : Nat → zL → List Value → zW → Prop) (Rt : Option Value → zW → Prop) : z_st1 (tX8_takeIn 100) 100 lv st w nx K Rt = (nx 101 lv (.int (2 : Int32) :: st) w) := id rfl
theorem sX8_takeIn_101 (lv : zL) (st : List Value) (w : zW) (nx K : Nat → zL → List Value → zW → Prop) (Rt : Option Value → zW → Prop) : z_st1 (tX8_takeIn 101) 101 lv st w nx K Rt = (z_2i st (fun x y r => (¬ x = y → nx 111 lv r w) ∧ (x = y → nx 104 lv r w))) := id rfl
theorem sX8_takeIn_104 (lv : zL) (st : List Value) (w : zW) (nx K : Nat → zL → List Value → zW → Prop) (Rt : Option Value → zW → Prop) : z_st1 (tX8_takeIn 104) 104 lv st w nx K Rt = (z_la lv 0 (fun x => nx 105 lv (.ref x :: st) w)) := id rfl
theorem sX8_takeIn_105 (lv : zL) (st : List Value) (w : zW) (nx K : Nat → zL → List Value → zW → Prop) (Rt : Option Value → zW → Prop) : z_st1 (tX8_takeIn 105) 105 lv st w nx K Rt = (z_1a st (fun x r => z_ob w x 9 (fun fs => z_fl fs 9 (fun u => nx 108 lv (u :: r) w)))) := id rfl
theorem sX8_takeIn_108 (lv : zL) (st : List Value) (w : zW) (nx K : Nat → zL → List Value → zW → Prop) (Rt : Option Value → zW → Prop) : z_st1 (tX8_takeIn 108) 108 lv st w nx K Rt = (z_li lv 1 (fun x => nx 109 lv (.int x :: st) w)) := id rfl
theorem sX8_takeIn_109 (lv : zL) (st : List Value) (w : zW) (nx K : Nat → zL → List Value → zW → Prop) (Rt : Option Value → zW → Prop) : z_st1 (tX8_takeIn 109) 109 lv st w nx K Rt = (z_ia st (fun x i r => z_ar0 w x (fun m g => vp_in i m ∧ nx 110 lv (.int (g i.toNatClampNeg) :: r) w))) := id rfl
theorem sX8_takeIn_110 (lv : zL) (st : List Value) (w : zW) (nx K : Nat → zL → List Value → zW → Prop) (Rt : Option Value → zW → Prop) : z_st1 (tX8_takeIn 110) 110 lv st w nx K Rt = (z_e1 st (fun x => Rt (some (.int x)) w)) := id rfl
theorem sX8_takeIn_111 (lv : zL) (st : List Value) (w : zW) (nx K : Nat → zL → List Value → zW → Prop) (Rt : Option Value → zW → Prop) : z_st1 (tX8_takeIn 111) 111 lv st w nx K Rt = (z_li lv 4 (fun x => nx 113 lv (.int x :: st) w)) := id rfl
theorem sX8_takeIn_113 (lv : zL) (st : List Value) (w : zW) (nx K : Nat → zL → List Value → zW → Prop) (Rt : Option Value → zW → Prop) : z_st1 (tX8_takeIn 113) 113 lv st w nx K Rt = (nx 114 lv (.int (1 : Int32) :: st) w) := id rfl
theorem sX8_takeIn_114 (lv : zL) (st : List Value) (w : zW) (nx K : Nat → zL → List Value → zW → Prop) (Rt : Option Value → zW → Prop) : z_st1 (tX8_takeIn 114) 114 lv st w nx K Rt = (z_2i st (fun x y r => (¬ x = y → nx 140 lv r w) ∧ (x = y → nx 117 lv r w))) := id rfl
theorem sX8_takeIn_117 (lv : zL) (st : List Value) (w : zW) (nx K : Nat → zL → List Value → zW → Prop) (Rt : Option Value → zW → Prop) : z_st1 (tX8_takeIn 117) 117 lv st w nx K Rt = (z_la lv 0 (fun x => nx 118 lv (.ref x :: st) w)) := id rfl
theorem sX8_takeIn_118 (lv : zL) (st : List Value) (w : zW) (nx K : Nat → zL → List Value → zW → Prop) (Rt : Option Value → zW → Prop) : z_st1 (tX8_takeIn 118) 118 lv st w nx K Rt = (z_1a st (fun x r => z_ob w x 9 (fun fs => z_fl fs 1 (fun u => nx 121 lv (u :: r) w)))) := id rfl
theorem sX8_takeIn_124 (lv : zL) (st : List Value) (w : zW) (nx K : Nat → zL → List Value → zW → Prop) (Rt : Option Value → zW → Prop) : z_st1 (tX8_takeIn 124) 124 lv st w nx K Rt = (z_la lv 0 (fun x => nx 125 lv (.ref x :: st) w)) := id rfl
theorem sX8_takeIn_125 (lv : zL) (st : List Value) (w : zW) (nx K : Nat → zL → List Value → zW → Prop) (Rt : Option Value → zW → Prop) : z_st1 (tX8_takeIn 125) 125 lv st w nx K Rt = (z_1a st (fun x r => z_ob w x 9 (fun fs => z_fl fs 18 (fun u => nx 128 lv (u :: r) w)))) := id rfl
theorem sX8_takeIn_128 (lv : zL) (st : List Value) (w : zW) (nx K : Nat → zL → List Value → zW → Prop) (Rt : Option Value → zW → Prop) : z_st1 (tX8_takeIn 128) 128 lv st w nx K Rt = (z_d1 st (fun x r => nx 129 lv (x :: x :: r) w)) := id rfl
theorem sX8_takeIn_129 (lv : zL) (st : List Value) (w : zW) (nx K : Nat → zL → List Value → zW → Prop) (Rt : Option Value → zW → Prop) : z_st1 (tX8_takeIn 129) 129 lv st w nx K Rt = (z_1a st (fun x r => z_ob w x 8 (fun fs => z_fl fs 2 (fun u => nx 132 lv (u :: r) w)))) := id rfl
theorem sX8_takeIn_132 (lv : zL) (st : List Value) (w : zW) (nx K : Nat → zL → List Value → zW → Prop) (Rt : Option Value → zW → Prop) : z_st1 (tX8_takeIn 132) 132 lv st w nx K Rt = (nx 133 lv (.int (1 : Int32) :: st) w) := id rfl
theorem sX8_takeIn_133 (lv : zL) (st : List Value) (w : zW) (nx K : Nat → zL → List Value → zW → Prop) (Rt : Option Value → zW → Prop) : z_st1 (tX8_takeIn 133) 133 lv st w nx K Rt = (z_2i st (fun x y r => nx 134 lv (.int (x + y) :: r) w)) := id rfl
theorem sX8_takeIn_134 (lv : zL) (st : List Value) (w : zW) (nx K : Nat → zL → List Value → zW → Prop) (Rt : Option Value → zW → Prop) : z_st1 (tX8_takeIn 134) 134 lv st w nx K Rt = (z_ia st (fun x i r => z_ob w x 8 (fun fs => 2 < fs.length ∧ nx 137 lv r (z_up w x (.inr (8, fs.set 2 (.int i))))))) := id rfl
theorem sX8_takeIn_137 (lv : zL) (st : List Value) (w : zW) (nx K : Nat → zL → List Value → zW → Prop) (Rt : Option Value → zW → Prop) : z_st1 (tX8_takeIn 137) 137 lv st w nx K Rt = (nx 148 lv st w) := id rfl
theorem sX8_takeIn_140 (lv : zL) (st : List Value) (w : zW) (nx K : Nat → zL → List Value → zW → Prop) (Rt : Option Value → zW → Prop) : z_st1 (tX8_takeIn 140) 140 lv st w nx K Rt = (z_la lv 0 (fun x => nx 141 lv (.ref x :: st) w)) := id rfl
theorem sX8_takeIn_141 (lv : zL) (st : List Value) (w : zW) (nx K : Nat → zL → List Value → zW → Prop) (Rt : Option Value → zW → Prop) : z_st1 (tX8_takeIn 141) 141 lv st w nx K Rt = (z_1a st (fun x r => z_ob w x 9 (fun fs => z_fl fs 3 (fun u => nx 144 lv (u :: r) w)))) := id rfl
theorem sX8_takeIn_144 (lv : zL) (st : List Value) (w : zW) (nx K : Nat → zL → List Value → zW → Prop) (Rt : Option Value → zW → Prop) : z_st1 (tX8_takeIn 144) 144 lv st w nx K Rt = (z_li lv 3 (fun x => nx 145 lv (.int x :: st) w)) := id rfl
theorem sX8_takeIn_148 (lv : zL) (st : List Value) (w : zW) (nx K : Nat → zL → List Value → zW → Prop) (Rt : Option Value → zW → Prop) : z_st1 (tX8_takeIn 148) 148 lv st w nx K Rt = (z_li lv 1 (fun x => z_ok1 lv 1 = true ∧ nx 151 (lv.set 1 (some (.int (x + (1 : Int32))))) st w)) := id rfl
theorem sX8_takeIn_151 (lv : zL) (st : List Value) (w : zW) (nx K : Nat → zL → List Value → zW → Prop) (Rt : Option Value → zW → Prop) : z_st1 (tX8_takeIn 151) 151 lv st w nx K Rt = (nx 23 lv st w) := id rfl
theorem sX8_takeIn_154 (lv : zL) (st : List Value) (w : zW) (nx K : Nat → zL → List Value → zW → Prop) (Rt : Option Value → zW → Prop) : z_st1 (tX8_takeIn 154) 154 lv st w nx K Rt = (nx 155 lv (.int (-1 : Int32) :: st) w) := id rfl
theorem sX8_takeIn_155 (lv : zL) (st : List Value) (w : zW) (nx K : Nat → zL → List Value → zW → Prop) (Rt : Option Value → zW → Prop) : z_st1 (tX8_takeIn 155) 155 lv st w nx K Rt = (z_e1 st (fun x => Rt (some (.int x)) w)) := id rfl
theorem sX8_takeIn_4 (lv : zL) (st : List Value) (w : zW) (nx K : Nat → zL → List Value → zW → Prop) (Rt : Option Value → zW → Prop) : z_st1 (tX8_takeIn 4) 4 lv st w nx K Rt = K 4 lv st w := id rfl
theorem sX8_takeIn_11 (lv : zL) (st : List Value) (w : zW) (nx K : Nat → zL → List Value → zW → Prop) (Rt : Option Value → zW → Prop) : z_st1 (tX8_takeIn 11) 11 lv st w nx K Rt = K 11 lv st w := id rfl
theorem sX8_takeIn_18 (lv : zL) (st : List Value) (w : zW) (nx K : Nat → zL → List Value → zW → Prop) (Rt : Option Value → zW → Prop) : z_st1 (tX8_takeIn 18) 18 lv st w nx K Rt = K 18 lv st w := id rfl
theorem sX8_takeIn_49 (lv : zL) (st : List Value) (w : zW) (nx K : Nat → zL → List Value → zW → Prop) (Rt : Option Value → zW → Prop) : z_st1 (tX8_takeIn 49) 49 lv st w nx K Rt = K 49 lv st w := id rfl
theorem sX8_takeIn_80 (lv : zL) (st : List Value) (w : zW) (nx K : Nat → zL → List Value → zW → Prop) (Rt : Option Value → zW → Prop) : z_st1 (tX8_takeIn 80) 80 lv st w nx K Rt = K 80 lv st w := id rfl
theorem sX8_takeIn_93 (lv : zL) (st : List Value) (w : zW) (nx K : Nat → zL → List Value → zW → Prop) (Rt : Option Value → zW → Prop) : z_st1 (tX8_takeIn 93) 93 lv st w nx K Rt = K 93 lv st w := id rfl
theorem sX8_takeIn_121 (lv : zL) (st : List Value) (w : zW) (nx K : Nat → zL → List Value → zW → Prop) (Rt : Option Value → zW → Prop) : z_st1 (tX8_takeIn 121) 121 lv st w nx K Rt = K 121 lv st w := id rfl
theorem sX8_takeIn_145 (lv : zL) (st : List Value) (w : zW) (nx K : Nat → zL → List Value → zW → Prop) (Rt : Option Value → zW → Prop) : z_st1 (tX8_takeIn 145) 145 lv st w nx K Rt = K 145 lv st w := id rfl
theorem dX8_takeIn_4 : decode cX8_takeIn 4 = .ok (.invokevirtual 229, 3) := by decide +kernel
theorem dX8_takeIn_11 : decode cX8_takeIn 11 = .ok (.invokevirtual 230, 3) := by decide +kernel
theorem dX8_takeIn_18 : decode cX8_takeIn 18 = .ok (.invokevirtual 231, 3) := by decide +kernel
theorem dX8_takeIn_49 : decode cX8_takeIn 49 = .ok (.invokevirtual 234, 3) := by decide +kernel
theorem dX8_takeIn_80 : decode cX8_takeIn 80 = .ok (.invokevirtual 238, 3) := by decide +kernel
theorem dX8_takeIn_93 : decode cX8_takeIn 93 = .ok (.invokevirtual 242, 3) := by decide +kernel
theorem dX8_takeIn_121 : decode cX8_takeIn 121 = .ok (.invokevirtual 245, 3) := by decide +kernel
theorem dX8_takeIn_145 : decode cX8_takeIn 145 = .ok (.invokevirtual 248, 3) := by decide +kernel

def tmX8_addEqualOnes (pc : Nat) : zI := match pc with
  | 0 => (1, 0, 0, 1, 0)
  | 1 => (46, 9, 5, 4, 0)
  | 7 => (34, 20, 0, 10, 0)
  | 10 => (1, 0, 0, 11, 0)
  | 11 => (46, 9, 3, 14, 0)
  | 17 => (35, 21, 0, 20, 0)
  | 20 => (55, 0, 0, 21, 0)
  | 21 => (1, 0, 0, 22, 0)
  | 22 => (46, 9, 3, 25, 0)
  | 25 => (6, 0, 0, 26, 0)
  | 29 => (3, 1, 0, 30, 0)
  | 30 => (0, 1, 0, 31, 0)
  | 31 => (3, 2, 0, 32, 0)
  | 32 => (6, 0, 0, 33, 1)
  | 33 => (3, 3, 0, 34, 0)
  | 34 => (6, 0, 0, 35, 1)
  | 35 => (3, 4, 0, 37, 0)
  | 37 => (0, 4, 0, 39, 0)
  | 39 => (1, 0, 0, 40, 0)
  | 40 => (46, 9, 3, 43, 0)
  | 46 => (43, 147, 0, 49, 0)
  | 49 => (1, 0, 0, 50, 0)
  | 50 => (46, 9, 3, 53, 0)
  | 53 => (0, 4, 0, 55, 0)
  | 58 => (3, 5, 0, 60, 0)
  | 60 => (1, 0, 0, 61, 0)
  | 61 => (46, 9, 2, 64, 0)
  | 64 => (1, 0, 0, 65, 0)
  | 65 => (46, 9, 1, 68, 0)
  | 68 => (0, 2, 0, 69, 0)
  | 69 => (0, 5, 0, 71, 0)
  | 74 => (35, 81, 0, 77, 0)
  | 77 => (6, 0, 0, 78, 1)
  | 78 => (33, 82, 0, 81, 0)
  | 81 => (6, 0, 0, 82, 0)
  | 82 => (3, 6, 0, 84, 0)
  | 84 => (0, 5, 0, 86, 0)
  | 86 => (3, 2, 0, 87, 0)
  | 87 => (0, 6, 0, 89, 0)
  | 89 => (34, 125, 0, 92, 0)
  | 92 => (1, 0, 0, 93, 0)
  | 93 => (46, 9, 5, 96, 0)
  | 96 => (1, 0, 0, 97, 0)
  | 97 => (46, 9, 1, 100, 0)
  | 100 => (0, 1, 0, 101, 0)
  | 101 => (0, 5, 0, 103, 0)
  | 106 => (34, 125, 0, 109, 0)
  | 109 => (1, 0, 0, 110, 0)
  | 110 => (46, 9, 18, 113, 0)
  | 113 => (29, 0, 0, 114, 0)
  | 114 => (46, 8, 3, 117, 0)
  | 117 => (6, 0, 0, 118, 1)
  | 118 => (8, 0, 0, 119, 0)
  | 119 => (47, 8, 3, 122, 0)
  | 122 => (33, 141, 0, 125, 0)
  | 125 => (1, 0, 0, 126, 0)
  | 126 => (46, 9, 3, 129, 0)
  | 129 => (0, 3, 0, 130, 0)
  | 130 => (0, 5, 0, 132, 0)
  | 135 => (7, 3, 0, 138, 1)
  | 138 => (0, 5, 0, 140, 0)
  | 140 => (3, 1, 0, 141, 0)
  | 141 => (7, 4, 0, 144, 1)
  | 144 => (33, 37, 0, 147, 0)
  | 147 => (1, 0, 0, 148, 0)
  | 148 => (46, 9, 3, 151, 0)
  | 151 => (0, 3, 0, 152, 0)
  | 155 => (55, 0, 0, 156, 0)
  | _ => (99, 0, 0, 0, 0)
def tX8_addEqualOnes (pc : Nat) : zI := if pc < 156 then tmX8_addEqualOnes pc else (99, 0, 0, 0, 0)
theorem tkX8_addEqualOnes : z_tab RX8 wsX8_addEqualOnes 7 none cX8_addEqualOnes 156 tX8_addEqualOnes := z_tab_of (tm := tmX8_addEqualOnes) (by decide +kernel)
theorem sX8_addEqualOnes_0 (lv : zL) (st : List Value) (w : zW) (nx K : Nat → zL → List Value → zW → Prop) (Rt : Option Value → zW → Prop) : z_st1 (tX8_addEqualOnes 0) 0 lv st w nx K Rt = (z_la lv 0 (fun x => nx 1 lv (.ref x :: st) w)) := id rfl
theorem sX8_addEqualOnes_1 (lv : zL) (st : List Value) (w : zW) (nx K : Nat → zL → List Value → zW → Prop) (Rt : Option Value → zW → Prop) : z_st1 (tX8_addEqualOnes 1) 1 lv st w nx K Rt = (z_1a st (fun x r => z_ob w x 9 (fun fs => z_fl fs 5 (fun u => nx 4 lv (u :: r) w)))) := id rfl
theorem sX8_addEqualOnes_7 (lv : zL) (st : List Value) (w : zW) (nx K : Nat → zL → List Value → zW → Prop) (Rt : Option Value → zW → Prop) : z_st1 (tX8_addEqualOnes 7) 7 lv st w nx K Rt = (z_1i st (fun x r => (x = 0 → nx 20 lv r w) ∧ (¬ x = 0 → nx 10 lv r w))) := id rfl
theorem sX8_addEqualOnes_10 (lv : zL) (st : List Value) (w : zW) (nx K : Nat → zL → List Value → zW → Prop) (Rt : Option Value → zW → Prop) : z_st1 (tX8_addEqualOnes 10) 10 lv st w nx K Rt = (z_la lv 0 (fun x => nx 11 lv (.ref x :: st) w)) := id rfl
theorem sX8_addEqualOnes_11 (lv : zL) (st : List Value) (w : zW) (nx K : Nat → zL → List Value → zW → Prop) (Rt : Option Value → zW → Prop) : z_st1 (tX8_addEqualOnes 11) 11 lv st w nx K Rt = (z_1a st (fun x r => z_ob w x 9 (fun fs => z_fl fs 3 (fun u => nx 14 lv (u :: r) w)))) := id rfl
theorem sX8_addEqualOnes_17 (lv : zL) (st : List Value) (w : zW) (nx K : Nat → zL → List Value → zW → Prop) (Rt : Option Value → zW → Prop) : z_st1 (tX8_addEqualOnes 17) 17 lv st w nx K Rt = (z_1i st (fun x r => (¬ x = 0 → nx 21 lv r w) ∧ (x = 0 → nx 20 lv r w))) := id rfl
theorem sX8_addEqualOnes_20 (lv : zL) (st : List Value) (w : zW) (nx K : Nat → zL → List Value → zW → Prop) (Rt : Option Value → zW → Prop) : z_st1 (tX8_addEqualOnes 20) 20 lv st w nx K Rt = (z_e0 st (Rt none w)) := id rfl
theorem sX8_addEqualOnes_21 (lv : zL) (st : List Value) (w : zW) (nx K : Nat → zL → List Value → zW → Prop) (Rt : Option Value → zW → Prop) : z_st1 (tX8_addEqualOnes 21) 21 lv st w nx K Rt = (z_la lv 0 (fun x => nx 22 lv (.ref x :: st) w)) := id rfl
theorem sX8_addEqualOnes_22 (lv : zL) (st : List Value) (w : zW) (nx K : Nat → zL → List Value → zW → Prop) (Rt : Option Value → zW → Prop) : z_st1 (tX8_addEqualOnes 22) 22 lv st w nx K Rt = (z_1a st (fun x r => z_ob w x 9 (fun fs => z_fl fs 3 (fun u => nx 25 lv (u :: r) w)))) := id rfl
theorem sX8_addEqualOnes_25 (lv : zL) (st : List Value) (w : zW) (nx K : Nat → zL → List Value → zW → Prop) (Rt : Option Value → zW → Prop) : z_st1 (tX8_addEqualOnes 25) 25 lv st w nx K Rt = (nx 26 lv (.int (0 : Int32) :: st) w) := id rfl
theorem sX8_addEqualOnes_29 (lv : zL) (st : List Value) (w : zW) (nx K : Nat → zL → List Value → zW → Prop) (Rt : Option Value → zW → Prop) : z_st1 (tX8_addEqualOnes 29) 29 lv st w nx K Rt = (z_1i st (fun x r => z_ok1 lv 1 = true ∧ nx 30 (lv.set 1 (some (.int x))) r w)) := id rfl
theorem sX8_addEqualOnes_30 (lv : zL) (st : List Value) (w : zW) (nx K : Nat → zL → List Value → zW → Prop) (Rt : Option Value → zW → Prop) : z_st1 (tX8_addEqualOnes 30) 30 lv st w nx K Rt = (z_li lv 1 (fun x => nx 31 lv (.int x :: st) w)) := id rfl
theorem sX8_addEqualOnes_31 (lv : zL) (st : List Value) (w : zW) (nx K : Nat → zL → List Value → zW → Prop) (Rt : Option Value → zW → Prop) : z_st1 (tX8_addEqualOnes 31) 31 lv st w nx K Rt = (z_1i st (fun x r => z_ok1 lv 2 = true ∧ nx 32 (lv.set 2 (some (.int x))) r w)) := id rfl
theorem sX8_addEqualOnes_32 (lv : zL) (st : List Value) (w : zW) (nx K : Nat → zL → List Value → zW → Prop) (Rt : Option Value → zW → Prop) : z_st1 (tX8_addEqualOnes 32) 32 lv st w nx K Rt = (nx 33 lv (.int (1 : Int32) :: st) w) := id rfl
theorem sX8_addEqualOnes_33 (lv : zL) (st : List Value) (w : zW) (nx K : Nat → zL → List Value → zW → Prop) (Rt : Option Value → zW → Prop) : z_st1 (tX8_addEqualOnes 33) 33 lv st w nx K Rt = (z_1i st (fun x r => z_ok1 lv 3 = true ∧ nx 34 (lv.set 3 (some (.int x))) r w)) := id rfl
theorem sX8_addEqualOnes_34 (lv : zL) (st : List Value) (w : zW) (nx K : Nat → zL → List Value → zW → Prop) (Rt : Option Value → zW → Prop) : z_st1 (tX8_addEqualOnes 34) 34 lv st w nx K Rt = (nx 35 lv (.int (1 : Int32) :: st) w) := id rfl
theorem sX8_addEqualOnes_35 (lv : zL) (st : List Value) (w : zW) (nx K : Nat → zL → List Value → zW → Prop) (Rt : Option Value → zW → Prop) : z_st1 (tX8_addEqualOnes 35) 35 lv st w nx K Rt = (z_1i st (fun x r => z_ok1 lv 4 = true ∧ nx 37 (lv.set 4 (some (.int x))) r w)) := id rfl
theorem sX8_addEqualOnes_37 (lv : zL) (st : List Value) (w : zW) (nx K : Nat → zL → List Value → zW → Prop) (Rt : Option Value → zW → Prop) : z_st1 (tX8_addEqualOnes 37) 37 lv st w nx K Rt = (z_li lv 4 (fun x => nx 39 lv (.int x :: st) w)) := id rfl
theorem sX8_addEqualOnes_39 (lv : zL) (st : List Value) (w : zW) (nx K : Nat → zL → List Value → zW → Prop) (Rt : Option Value → zW → Prop) : z_st1 (tX8_addEqualOnes 39) 39 lv st w nx K Rt = (z_la lv 0 (fun x => nx 40 lv (.ref x :: st) w)) := id rfl
theorem sX8_addEqualOnes_40 (lv : zL) (st : List Value) (w : zW) (nx K : Nat → zL → List Value → zW → Prop) (Rt : Option Value → zW → Prop) : z_st1 (tX8_addEqualOnes 40) 40 lv st w nx K Rt = (z_1a st (fun x r => z_ob w x 9 (fun fs => z_fl fs 3 (fun u => nx 43 lv (u :: r) w)))) := id rfl
theorem sX8_addEqualOnes_46 (lv : zL) (st : List Value) (w : zW) (nx K : Nat → zL → List Value → zW → Prop) (Rt : Option Value → zW → Prop) : z_st1 (tX8_addEqualOnes 46) 46 lv st w nx K Rt = (z_2i st (fun x y r => (y ≤ x → nx 147 lv r w) ∧ (¬ y ≤ x → nx 49 lv r w))) := id rfl
theorem sX8_addEqualOnes_49 (lv : zL) (st : List Value) (w : zW) (nx K : Nat → zL → List Value → zW → Prop) (Rt : Option Value → zW → Prop) : z_st1 (tX8_addEqualOnes 49) 49 lv st w nx K Rt = (z_la lv 0 (fun x => nx 50 lv (.ref x :: st) w)) := id rfl
theorem sX8_addEqualOnes_50 (lv : zL) (st : List Value) (w : zW) (nx K : Nat → zL → List Value → zW → Prop) (Rt : Option Value → zW → Prop) : z_st1 (tX8_addEqualOnes 50) 50 lv st w nx K Rt = (z_1a st (fun x r => z_ob w x 9 (fun fs => z_fl fs 3 (fun u => nx 53 lv (u :: r) w)))) := id rfl
theorem sX8_addEqualOnes_53 (lv : zL) (st : List Value) (w : zW) (nx K : Nat → zL → List Value → zW → Prop) (Rt : Option Value → zW → Prop) : z_st1 (tX8_addEqualOnes 53) 53 lv st w nx K Rt = (z_li lv 4 (fun x => nx 55 lv (.int x :: st) w)) := id rfl
theorem sX8_addEqualOnes_58 (lv : zL) (st : List Value) (w : zW) (nx K : Nat → zL → List Value → zW → Prop) (Rt : Option Value → zW → Prop) : z_st1 (tX8_addEqualOnes 58) 58 lv st w nx K Rt = (z_1i st (fun x r => z_ok1 lv 5 = true ∧ nx 60 (lv.set 5 (some (.int x))) r w)) := id rfl
theorem sX8_addEqualOnes_60 (lv : zL) (st : List Value) (w : zW) (nx K : Nat → zL → List Value → zW → Prop) (Rt : Option Value → zW → Prop) : z_st1 (tX8_addEqualOnes 60) 60 lv st w nx K Rt = (z_la lv 0 (fun x => nx 61 lv (.ref x :: st) w)) := id rfl
theorem sX8_addEqualOnes_61 (lv : zL) (st : List Value) (w : zW) (nx K : Nat → zL → List Value → zW → Prop) (Rt : Option Value → zW → Prop) : z_st1 (tX8_addEqualOnes 61) 61 lv st w nx K Rt = (z_1a st (fun x r => z_ob w x 9 (fun fs => z_fl fs 2 (fun u => nx 64 lv (u :: r) w)))) := id rfl
theorem sX8_addEqualOnes_64 (lv : zL) (st : List Value) (w : zW) (nx K : Nat → zL → List Value → zW → Prop) (Rt : Option Value → zW → Prop) : z_st1 (tX8_addEqualOnes 64) 64 lv st w nx K Rt = (z_la lv 0 (fun x => nx 65 lv (.ref x :: st) w)) := id rfl
theorem sX8_addEqualOnes_65 (lv : zL) (st : List Value) (w : zW) (nx K : Nat → zL → List Value → zW → Prop) (Rt : Option Value → zW → Prop) : z_st1 (tX8_addEqualOnes 65) 65 lv st w nx K Rt = (z_1a st (fun x r => z_ob w x 9 (fun fs => z_fl fs 1 (fun u => nx 68 lv (u :: r) w)))) := id rfl
theorem sX8_addEqualOnes_68 (lv : zL) (st : List Value) (w : zW) (nx K : Nat → zL → List Value → zW → Prop) (Rt : Option Value → zW → Prop) : z_st1 (tX8_addEqualOnes 68) 68 lv st w nx K Rt = (z_li lv 2 (fun x => nx 69 lv (.int x :: st) w)) := id rfl
theorem sX8_addEqualOnes_69 (lv : zL) (st : List Value) (w : zW) (nx K : Nat → zL → List Value → zW → Prop) (Rt : Option Value → zW → Prop) : z_st1 (tX8_addEqualOnes 69) 69 lv st w nx K Rt = (z_li lv 5 (fun x => nx 71 lv (.int x :: st) w)) := id rfl
theorem sX8_addEqualOnes_74 (lv : zL) (st : List Value) (w : zW) (nx K : Nat → zL → List Value → zW → Prop) (Rt : Option Value → zW → Prop) : z_st1 (tX8_addEqualOnes 74) 74 lv st w nx K Rt = (z_1i st (fun x r => (¬ x = 0 → nx 81 lv r w) ∧ (x = 0 → nx 77 lv r w))) := id rfl
theorem sX8_addEqualOnes_77 (lv : zL) (st : List Value) (w : zW) (nx K : Nat → zL → List Value → zW → Prop) (Rt : Option Value → zW → Prop) : z_st1 (tX8_addEqualOnes 77) 77 lv st w nx K Rt = (nx 78 lv (.int (1 : Int32) :: st) w) := id rfl
theorem sX8_addEqualOnes_78 (lv : zL) (st : List Value) (w : zW) (nx K : Nat → zL → List Value → zW → Prop) (Rt : Option Value → zW → Prop) : z_st1 (tX8_addEqualOnes 78) 78 lv st w nx K Rt = (nx 82 lv st w) := id rfl
theorem sX8_addEqualOnes_81 (lv : zL) (st : List Value) (w : zW) (nx K : Nat → zL → List Value → zW → Prop) (Rt : Option Value → zW → Prop) : z_st1 (tX8_addEqualOnes 81) 81 lv st w nx K Rt = (nx 82 lv (.int (0 : Int32) :: st) w) := id rfl
theorem sX8_addEqualOnes_82 (lv : zL) (st : List Value) (w : zW) (nx K : Nat → zL → List Value → zW → Prop) (Rt : Option Value → zW → Prop) : z_st1 (tX8_addEqualOnes 82) 82 lv st w nx K Rt = (z_1i st (fun x r => z_ok1 lv 6 = true ∧ nx 84 (lv.set 6 (some (.int x))) r w)) := id rfl
theorem sX8_addEqualOnes_84 (lv : zL) (st : List Value) (w : zW) (nx K : Nat → zL → List Value → zW → Prop) (Rt : Option Value → zW → Prop) : z_st1 (tX8_addEqualOnes 84) 84 lv st w nx K Rt = (z_li lv 5 (fun x => nx 86 lv (.int x :: st) w)) := id rfl
theorem sX8_addEqualOnes_86 (lv : zL) (st : List Value) (w : zW) (nx K : Nat → zL → List Value → zW → Prop) (Rt : Option Value → zW → Prop) : z_st1 (tX8_addEqualOnes 86) 86 lv st w nx K Rt = (z_1i st (fun x r => z_ok1 lv 2 = true ∧ nx 87 (lv.set 2 (some (.int x))) r w)) := id rfl
theorem sX8_addEqualOnes_87 (lv : zL) (st : List Value) (w : zW) (nx K : Nat → zL → List Value → zW → Prop) (Rt : Option Value → zW → Prop) : z_st1 (tX8_addEqualOnes 87) 87 lv st w nx K Rt = (z_li lv 6 (fun x => nx 89 lv (.int x :: st) w)) := id rfl
theorem sX8_addEqualOnes_89 (lv : zL) (st : List Value) (w : zW) (nx K : Nat → zL → List Value → zW → Prop) (Rt : Option Value → zW → Prop) : z_st1 (tX8_addEqualOnes 89) 89 lv st w nx K Rt = (z_1i st (fun x r => (x = 0 → nx 125 lv r w) ∧ (¬ x = 0 → nx 92 lv r w))) := id rfl
theorem sX8_addEqualOnes_92 (lv : zL) (st : List Value) (w : zW) (nx K : Nat → zL → List Value → zW → Prop) (Rt : Option Value → zW → Prop) : z_st1 (tX8_addEqualOnes 92) 92 lv st w nx K Rt = (z_la lv 0 (fun x => nx 93 lv (.ref x :: st) w)) := id rfl
theorem sX8_addEqualOnes_93 (lv : zL) (st : List Value) (w : zW) (nx K : Nat → zL → List Value → zW → Prop) (Rt : Option Value → zW → Prop) : z_st1 (tX8_addEqualOnes 93) 93 lv st w nx K Rt = (z_1a st (fun x r => z_ob w x 9 (fun fs => z_fl fs 5 (fun u => nx 96 lv (u :: r) w)))) := id rfl
theorem sX8_addEqualOnes_96 (lv : zL) (st : List Value) (w : zW) (nx K : Nat → zL → List Value → zW → Prop) (Rt : Option Value → zW → Prop) : z_st1 (tX8_addEqualOnes 96) 96 lv st w nx K Rt = (z_la lv 0 (fun x => nx 97 lv (.ref x :: st) w)) := id rfl
theorem sX8_addEqualOnes_97 (lv : zL) (st : List Value) (w : zW) (nx K : Nat → zL → List Value → zW → Prop) (Rt : Option Value → zW → Prop) : z_st1 (tX8_addEqualOnes 97) 97 lv st w nx K Rt = (z_1a st (fun x r => z_ob w x 9 (fun fs => z_fl fs 1 (fun u => nx 100 lv (u :: r) w)))) := id rfl
theorem sX8_addEqualOnes_100 (lv : zL) (st : List Value) (w : zW) (nx K : Nat → zL → List Value → zW → Prop) (Rt : Option Value → zW → Prop) : z_st1 (tX8_addEqualOnes 100) 100 lv st w nx K Rt = (z_li lv 1 (fun x => nx 101 lv (.int x :: st) w)) := id rfl
theorem sX8_addEqualOnes_101 (lv : zL) (st : List Value) (w : zW) (nx K : Nat → zL → List Value → zW → Prop) (Rt : Option Value → zW → Prop) : z_st1 (tX8_addEqualOnes 101) 101 lv st w nx K Rt = (z_li lv 5 (fun x => nx 103 lv (.int x :: st) w)) := id rfl
theorem sX8_addEqualOnes_106 (lv : zL) (st : List Value) (w : zW) (nx K : Nat → zL → List Value → zW → Prop) (Rt : Option Value → zW → Prop) : z_st1 (tX8_addEqualOnes 106) 106 lv st w nx K Rt = (z_1i st (fun x r => (x = 0 → nx 125 lv r w) ∧ (¬ x = 0 → nx 109 lv r w))) := id rfl
theorem sX8_addEqualOnes_109 (lv : zL) (st : List Value) (w : zW) (nx K : Nat → zL → List Value → zW → Prop) (Rt : Option Value → zW → Prop) : z_st1 (tX8_addEqualOnes 109) 109 lv st w nx K Rt = (z_la lv 0 (fun x => nx 110 lv (.ref x :: st) w)) := id rfl
theorem sX8_addEqualOnes_110 (lv : zL) (st : List Value) (w : zW) (nx K : Nat → zL → List Value → zW → Prop) (Rt : Option Value → zW → Prop) : z_st1 (tX8_addEqualOnes 110) 110 lv st w nx K Rt = (z_1a st (fun x r => z_ob w x 9 (fun fs => z_fl fs 18 (fun u => nx 113 lv (u :: r) w)))) := id rfl
theorem sX8_addEqualOnes_113 (lv : zL) (st : List Value) (w : zW) (nx K : Nat → zL → List Value → zW → Prop) (Rt : Option Value → zW → Prop) : z_st1 (tX8_addEqualOnes 113) 113 lv st w nx K Rt = (z_d1 st (fun x r => nx 114 lv (x :: x :: r) w)) := id rfl
theorem sX8_addEqualOnes_114 (lv : zL) (st : List Value) (w : zW) (nx K : Nat → zL → List Value → zW → Prop) (Rt : Option Value → zW → Prop) : z_st1 (tX8_addEqualOnes 114) 114 lv st w nx K Rt = (z_1a st (fun x r => z_ob w x 8 (fun fs => z_fl fs 3 (fun u => nx 117 lv (u :: r) w)))) := id rfl
theorem sX8_addEqualOnes_117 (lv : zL) (st : List Value) (w : zW) (nx K : Nat → zL → List Value → zW → Prop) (Rt : Option Value → zW → Prop) : z_st1 (tX8_addEqualOnes 117) 117 lv st w nx K Rt = (nx 118 lv (.int (1 : Int32) :: st) w) := id rfl
theorem sX8_addEqualOnes_118 (lv : zL) (st : List Value) (w : zW) (nx K : Nat → zL → List Value → zW → Prop) (Rt : Option Value → zW → Prop) : z_st1 (tX8_addEqualOnes 118) 118 lv st w nx K Rt = (z_2i st (fun x y r => nx 119 lv (.int (x + y) :: r) w)) := id rfl
theorem sX8_addEqualOnes_119 (lv : zL) (st : List Value) (w : zW) (nx K : Nat → zL → List Value → zW → Prop) (Rt : Option Value → zW → Prop) : z_st1 (tX8_addEqualOnes 119) 119 lv st w nx K Rt = (z_ia st (fun x i r => z_ob w x 8 (fun fs => 3 < fs.length ∧ nx 122 lv r (z_up w x (.inr (8, fs.set 3 (.int i))))))) := id rfl
theorem sX8_addEqualOnes_122 (lv : zL) (st : List Value) (w : zW) (nx K : Nat → zL → List Value → zW → Prop) (Rt : Option Value → zW → Prop) : z_st1 (tX8_addEqualOnes 122) 122 lv st w nx K Rt = (nx 141 lv st w) := id rfl
theorem sX8_addEqualOnes_125 (lv : zL) (st : List Value) (w : zW) (nx K : Nat → zL → List Value → zW → Prop) (Rt : Option Value → zW → Prop) : z_st1 (tX8_addEqualOnes 125) 125 lv st w nx K Rt = (z_la lv 0 (fun x => nx 126 lv (.ref x :: st) w)) := id rfl
theorem sX8_addEqualOnes_126 (lv : zL) (st : List Value) (w : zW) (nx K : Nat → zL → List Value → zW → Prop) (Rt : Option Value → zW → Prop) : z_st1 (tX8_addEqualOnes 126) 126 lv st w nx K Rt = (z_1a st (fun x r => z_ob w x 9 (fun fs => z_fl fs 3 (fun u => nx 129 lv (u :: r) w)))) := id rfl
theorem sX8_addEqualOnes_129 (lv : zL) (st : List Value) (w : zW) (nx K : Nat → zL → List Value → zW → Prop) (Rt : Option Value → zW → Prop) : z_st1 (tX8_addEqualOnes 129) 129 lv st w nx K Rt = (z_li lv 3 (fun x => nx 130 lv (.int x :: st) w)) := id rfl
theorem sX8_addEqualOnes_130 (lv : zL) (st : List Value) (w : zW) (nx K : Nat → zL → List Value → zW → Prop) (Rt : Option Value → zW → Prop) : z_st1 (tX8_addEqualOnes 130) 130 lv st w nx K Rt = (z_li lv 5 (fun x => nx 132 lv (.int x :: st) w)) := id rfl
theorem sX8_addEqualOnes_135 (lv : zL) (st : List Value) (w : zW) (nx K : Nat → zL → List Value → zW → Prop) (Rt : Option Value → zW → Prop) : z_st1 (tX8_addEqualOnes 135) 135 lv st w nx K Rt = (z_li lv 3 (fun x => z_ok1 lv 3 = true ∧ nx 138 (lv.set 3 (some (.int (x + (1 : Int32))))) st w)) := id rfl
theorem sX8_addEqualOnes_138 (lv : zL) (st : List Value) (w : zW) (nx K : Nat → zL → List Value → zW → Prop) (Rt : Option Value → zW → Prop) : z_st1 (tX8_addEqualOnes 138) 138 lv st w nx K Rt = (z_li lv 5 (fun x => nx 140 lv (.int x :: st) w)) := id rfl
theorem sX8_addEqualOnes_140 (lv : zL) (st : List Value) (w : zW) (nx K : Nat → zL → List Value → zW → Prop) (Rt : Option Value → zW → Prop) : z_st1 (tX8_addEqualOnes 140) 140 lv st w nx K Rt = (z_1i st (fun x r => z_ok1 lv 1 = true ∧ nx 141 (lv.set 1 (some (.int x))) r w)) := id rfl
theorem sX8_addEqualOnes_141 (lv : zL) (st : List Value) (w : zW) (nx K : Nat → zL → List Value → zW → Prop) (Rt : Option Value → zW → Prop) : z_st1 (tX8_addEqualOnes 141) 141 lv st w nx K Rt = (z_li lv 4 (fun x => z_ok1 lv 4 = true ∧ nx 144 (lv.set 4 (some (.int (x + (1 : Int32))))) st w)) := id rfl
theorem sX8_addEqualOnes_144 (lv : zL) (st : List Value) (w : zW) (nx K : Nat → zL → List Value → zW → Prop) (Rt : Option Value → zW → Prop) : z_st1 (tX8_addEqualOnes 144) 144 lv st w nx K Rt = (nx 37 lv st w) := id rfl
theorem sX8_addEqualOnes_147 (lv : zL) (st : List Value) (w : zW) (nx K : Nat → zL → List Value → zW → Prop) (Rt : Option Value → zW → Prop) : z_st1 (tX8_addEqualOnes 147) 147 lv st w nx K Rt = (z_la lv 0 (fun x => nx 148 lv (.ref x :: st) w)) := id rfl
theorem sX8_addEqualOnes_148 (lv : zL) (st : List Value) (w : zW) (nx K : Nat → zL → List Value → zW → Prop) (Rt : Option Value → zW → Prop) : z_st1 (tX8_addEqualOnes 148) 148 lv st w nx K Rt = (z_1a st (fun x r => z_ob w x 9 (fun fs => z_fl fs 3 (fun u => nx 151 lv (u :: r) w)))) := id rfl
theorem sX8_addEqualOnes_151 (lv : zL) (st : List Value) (w : zW) (nx K : Nat → zL → List Value → zW → Prop) (Rt : Option Value → zW → Prop) : z_st1 (tX8_addEqualOnes 151) 151 lv st w nx K Rt = (z_li lv 3 (fun x => nx 152 lv (.int x :: st) w)) := id rfl
theorem sX8_addEqualOnes_155 (lv : zL) (st : List Value) (w : zW) (nx K : Nat → zL → List Value → zW → Prop) (Rt : Option Value → zW → Prop) : z_st1 (tX8_addEqualOnes 155) 155 lv st w nx K Rt = (z_e0 st (Rt none w)) := id rfl
theorem sX8_addEqualOnes_4 (lv : zL) (st : List Value) (w : zW) (nx K : Nat → zL → List Value → zW → Prop) (Rt : Option Value → zW → Prop) : z_st1 (tX8_addEqualOnes 4) 4 lv st w nx K Rt = K 4 lv st w := id rfl
theorem sX8_addEqualOnes_14 (lv : zL) (st : List Value) (w : zW) (nx K : Nat → zL → List Value → zW → Prop) (Rt : Option Value → zW → Prop) : z_st1 (tX8_addEqualOnes 14) 14 lv st w nx K Rt = K 14 lv st w := id rfl
theorem sX8_addEqualOnes_26 (lv : zL) (st : List Value) (w : zW) (nx K : Nat → zL → List Value → zW → Prop) (Rt : Option Value → zW → Prop) : z_st1 (tX8_addEqualOnes 26) 26 lv st w nx K Rt = K 26 lv st w := id rfl
theorem sX8_addEqualOnes_43 (lv : zL) (st : List Value) (w : zW) (nx K : Nat → zL → List Value → zW → Prop) (Rt : Option Value → zW → Prop) : z_st1 (tX8_addEqualOnes 43) 43 lv st w nx K Rt = K 43 lv st w := id rfl
theorem sX8_addEqualOnes_55 (lv : zL) (st : List Value) (w : zW) (nx K : Nat → zL → List Value → zW → Prop) (Rt : Option Value → zW → Prop) : z_st1 (tX8_addEqualOnes 55) 55 lv st w nx K Rt = K 55 lv st w := id rfl
theorem sX8_addEqualOnes_71 (lv : zL) (st : List Value) (w : zW) (nx K : Nat → zL → List Value → zW → Prop) (Rt : Option Value → zW → Prop) : z_st1 (tX8_addEqualOnes 71) 71 lv st w nx K Rt = K 71 lv st w := id rfl
theorem sX8_addEqualOnes_103 (lv : zL) (st : List Value) (w : zW) (nx K : Nat → zL → List Value → zW → Prop) (Rt : Option Value → zW → Prop) : z_st1 (tX8_addEqualOnes 103) 103 lv st w nx K Rt = K 103 lv st w := id rfl
theorem sX8_addEqualOnes_132 (lv : zL) (st : List Value) (w : zW) (nx K : Nat → zL → List Value → zW → Prop) (Rt : Option Value → zW → Prop) : z_st1 (tX8_addEqualOnes 132) 132 lv st w nx K Rt = K 132 lv st w := id rfl
theorem sX8_addEqualOnes_152 (lv : zL) (st : List Value) (w : zW) (nx K : Nat → zL → List Value → zW → Prop) (Rt : Option Value → zW → Prop) : z_st1 (tX8_addEqualOnes 152) 152 lv st w nx K Rt = K 152 lv st w := id rfl
theorem dX8_addEqualOnes_4 : decode cX8_addEqualOnes 4 = .ok (.invokevirtual 251, 3) := by decide +kernel
theorem dX8_addEqualOnes_14 : decode cX8_addEqualOnes 14 = .ok (.invokevirtual 188, 3) := by decide +kernel
theorem dX8_addEqualOnes_26 : decode cX8_addEqualOnes 26 = .ok (.invokevirtual 189, 3) := by decide +kernel
theorem dX8_addEqualOnes_43 : decode cX8_addEqualOnes 43 = .ok (.invokevirtual 188, 3) := by decide +kernel
theorem dX8_addEqualOnes_55 : decode cX8_addEqualOnes 55 = .ok (.invokevirtual 189, 3) := by decide +kernel
theorem dX8_addEqualOnes_71 : decode cX8_addEqualOnes 71 = .ok (.invokevirtual 210, 3) := by decide +kernel
theorem dX8_addEqualOnes_103 : decode cX8_addEqualOnes 103 = .ok (.invokevirtual 252, 3) := by decide +kernel
theorem dX8_addEqualOnes_132 : decode cX8_addEqualOnes 132 = .ok (.invokevirtual 256, 3) := by decide +kernel
theorem dX8_addEqualOnes_152 : decode cX8_addEqualOnes 152 = .ok (.invokevirtual 258, 3) := by decide +kernel

def tmX8_passOut (pc : Nat) : zI := match pc with
  | 0 => (1, 0, 0, 1, 0)
  | 1 => (46, 9, 7, 4, 0)
  | 7 => (6, 0, 0, 8, 0)
  | 8 => (3, 1, 0, 9, 0)
  | 9 => (6, 0, 0, 10, 0)
  | 10 => (3, 2, 0, 11, 0)
  | 11 => (0, 2, 0, 12, 0)
  | 12 => (1, 0, 0, 13, 0)
  | 13 => (46, 9, 3, 16, 0)
  | 19 => (43, 100, 0, 22, 0)
  | 22 => (1, 0, 0, 23, 0)
  | 23 => (46, 9, 3, 26, 0)
  | 26 => (0, 2, 0, 27, 0)
  | 30 => (3, 3, 0, 31, 0)
  | 31 => (1, 0, 0, 32, 0)
  | 32 => (46, 9, 7, 35, 0)
  | 35 => (1, 0, 0, 36, 0)
  | 36 => (46, 9, 1, 39, 0)
  | 39 => (0, 3, 0, 40, 0)
  | 43 => (3, 4, 0, 45, 0)
  | 45 => (0, 4, 0, 47, 0)
  | 47 => (6, 0, 0, 48, 2)
  | 48 => (41, 60, 0, 51, 0)
  | 51 => (1, 0, 0, 52, 0)
  | 52 => (46, 9, 1, 55, 0)
  | 55 => (0, 3, 0, 56, 0)
  | 59 => (53, 0, 0, 60, 0)
  | 60 => (0, 4, 0, 62, 0)
  | 62 => (6, 0, 0, 63, 1)
  | 63 => (41, 82, 0, 66, 0)
  | 66 => (1, 0, 0, 67, 0)
  | 67 => (46, 9, 18, 70, 0)
  | 70 => (29, 0, 0, 71, 0)
  | 71 => (46, 8, 4, 74, 0)
  | 74 => (6, 0, 0, 75, 1)
  | 75 => (8, 0, 0, 76, 0)
  | 76 => (47, 8, 4, 79, 0)
  | 79 => (33, 94, 0, 82, 0)
  | 82 => (1, 0, 0, 83, 0)
  | 83 => (46, 9, 3, 86, 0)
  | 86 => (0, 1, 0, 87, 0)
  | 87 => (0, 3, 0, 88, 0)
  | 91 => (7, 1, 0, 94, 1)
  | 94 => (7, 2, 0, 97, 1)
  | 97 => (33, 11, 0, 100, 0)
  | 100 => (1, 0, 0, 101, 0)
  | 101 => (46, 9, 3, 104, 0)
  | 104 => (0, 1, 0, 105, 0)
  | 108 => (6, 0, 0, 109, (-1))
  | 109 => (53, 0, 0, 110, 0)
  | _ => (99, 0, 0, 0, 0)
def tX8_passOut (pc : Nat) : zI := if pc < 110 then tmX8_passOut pc else (99, 0, 0, 0, 0)
theorem tkX8_passOut : z_tab RX8 wsX8_passOut 5 (some .int) cX8_passOut 110 tX8_passOut := z_tab_of (tm := tmX8_passOut) (by decide +kernel)
theorem sX8_passOut_0 (lv : zL) (st : List Value) (w : zW) (nx K : Nat → zL → List Value → zW → Prop) (Rt : Option Value → zW → Prop) : z_st1 (tX8_passOut 0) 0 lv st w nx K Rt = (z_la lv 0 (fun x => nx 1 lv (.ref x :: st) w)) := id rfl
theorem sX8_passOut_1 (lv : zL) (st : List Value) (w : zW) (nx K : Nat → zL → List Value → zW → Prop) (Rt : Option Value → zW → Prop) : z_st1 (tX8_passOut 1) 1 lv st w nx K Rt = (z_1a st (fun x r => z_ob w x 9 (fun fs => z_fl fs 7 (fun u => nx 4 lv (u :: r) w)))) := id rfl
theorem sX8_passOut_7 (lv : zL) (st : List Value) (w : zW) (nx K : Nat → zL → List Value → zW → Prop) (Rt : Option Value → zW → Prop) : z_st1 (tX8_passOut 7) 7 lv st w nx K Rt = (nx 8 lv (.int (0 : Int32) :: st) w) := id rfl
theorem sX8_passOut_8 (lv : zL) (st : List Value) (w : zW) (nx K : Nat → zL → List Value → zW → Prop) (Rt : Option Value → zW → Prop) : z_st1 (tX8_passOut 8) 8 lv st w nx K Rt = (z_1i st (fun x r => z_ok1 lv 1 = true ∧ nx 9 (lv.set 1 (some (.int x))) r w)) := id rfl
theorem sX8_passOut_9 (lv : zL) (st : List Value) (w : zW) (nx K : Nat → zL → List Value → zW → Prop) (Rt : Option Value → zW → Prop) : z_st1 (tX8_passOut 9) 9 lv st w nx K Rt = (nx 10 lv (.int (0 : Int32) :: st) w) := id rfl
theorem sX8_passOut_10 (lv : zL) (st : List Value) (w : zW) (nx K : Nat → zL → List Value → zW → Prop) (Rt : Option Value → zW → Prop) : z_st1 (tX8_passOut 10) 10 lv st w nx K Rt = (z_1i st (fun x r => z_ok1 lv 2 = true ∧ nx 11 (lv.set 2 (some (.int x))) r w)) := id rfl
theorem sX8_passOut_11 (lv : zL) (st : List Value) (w : zW) (nx K : Nat → zL → List Value → zW → Prop) (Rt : Option Value → zW → Prop) : z_st1 (tX8_passOut 11) 11 lv st w nx K Rt = (z_li lv 2 (fun x => nx 12 lv (.int x :: st) w)) := id rfl
theorem sX8_passOut_12 (lv : zL) (st : List Value) (w : zW) (nx K : Nat → zL → List Value → zW → Prop) (Rt : Option Value → zW → Prop) : z_st1 (tX8_passOut 12) 12 lv st w nx K Rt = (z_la lv 0 (fun x => nx 13 lv (.ref x :: st) w)) := id rfl
theorem sX8_passOut_13 (lv : zL) (st : List Value) (w : zW) (nx K : Nat → zL → List Value → zW → Prop) (Rt : Option Value → zW → Prop) : z_st1 (tX8_passOut 13) 13 lv st w nx K Rt = (z_1a st (fun x r => z_ob w x 9 (fun fs => z_fl fs 3 (fun u => nx 16 lv (u :: r) w)))) := id rfl
theorem sX8_passOut_19 (lv : zL) (st : List Value) (w : zW) (nx K : Nat → zL → List Value → zW → Prop) (Rt : Option Value → zW → Prop) : z_st1 (tX8_passOut 19) 19 lv st w nx K Rt = (z_2i st (fun x y r => (y ≤ x → nx 100 lv r w) ∧ (¬ y ≤ x → nx 22 lv r w))) := id rfl
theorem sX8_passOut_22 (lv : zL) (st : List Value) (w : zW) (nx K : Nat → zL → List Value → zW → Prop) (Rt : Option Value → zW → Prop) : z_st1 (tX8_passOut 22) 22 lv st w nx K Rt = (z_la lv 0 (fun x => nx 23 lv (.ref x :: st) w)) := id rfl
theorem sX8_passOut_23 (lv : zL) (st : List Value) (w : zW) (nx K : Nat → zL → List Value → zW → Prop) (Rt : Option Value → zW → Prop) : z_st1 (tX8_passOut 23) 23 lv st w nx K Rt = (z_1a st (fun x r => z_ob w x 9 (fun fs => z_fl fs 3 (fun u => nx 26 lv (u :: r) w)))) := id rfl
theorem sX8_passOut_26 (lv : zL) (st : List Value) (w : zW) (nx K : Nat → zL → List Value → zW → Prop) (Rt : Option Value → zW → Prop) : z_st1 (tX8_passOut 26) 26 lv st w nx K Rt = (z_li lv 2 (fun x => nx 27 lv (.int x :: st) w)) := id rfl
theorem sX8_passOut_30 (lv : zL) (st : List Value) (w : zW) (nx K : Nat → zL → List Value → zW → Prop) (Rt : Option Value → zW → Prop) : z_st1 (tX8_passOut 30) 30 lv st w nx K Rt = (z_1i st (fun x r => z_ok1 lv 3 = true ∧ nx 31 (lv.set 3 (some (.int x))) r w)) := id rfl
theorem sX8_passOut_31 (lv : zL) (st : List Value) (w : zW) (nx K : Nat → zL → List Value → zW → Prop) (Rt : Option Value → zW → Prop) : z_st1 (tX8_passOut 31) 31 lv st w nx K Rt = (z_la lv 0 (fun x => nx 32 lv (.ref x :: st) w)) := id rfl
theorem sX8_passOut_32 (lv : zL) (st : List Value) (w : zW) (nx K : Nat → zL → List Value → zW → Prop) (Rt : Option Value → zW → Prop) : z_st1 (tX8_passOut 32) 32 lv st w nx K Rt = (z_1a st (fun x r => z_ob w x 9 (fun fs => z_fl fs 7 (fun u => nx 35 lv (u :: r) w)))) := id rfl
theorem sX8_passOut_35 (lv : zL) (st : List Value) (w : zW) (nx K : Nat → zL → List Value → zW → Prop) (Rt : Option Value → zW → Prop) : z_st1 (tX8_passOut 35) 35 lv st w nx K Rt = (z_la lv 0 (fun x => nx 36 lv (.ref x :: st) w)) := id rfl
theorem sX8_passOut_36 (lv : zL) (st : List Value) (w : zW) (nx K : Nat → zL → List Value → zW → Prop) (Rt : Option Value → zW → Prop) : z_st1 (tX8_passOut 36) 36 lv st w nx K Rt = (z_1a st (fun x r => z_ob w x 9 (fun fs => z_fl fs 1 (fun u => nx 39 lv (u :: r) w)))) := id rfl
theorem sX8_passOut_39 (lv : zL) (st : List Value) (w : zW) (nx K : Nat → zL → List Value → zW → Prop) (Rt : Option Value → zW → Prop) : z_st1 (tX8_passOut 39) 39 lv st w nx K Rt = (z_li lv 3 (fun x => nx 40 lv (.int x :: st) w)) := id rfl
theorem sX8_passOut_43 (lv : zL) (st : List Value) (w : zW) (nx K : Nat → zL → List Value → zW → Prop) (Rt : Option Value → zW → Prop) : z_st1 (tX8_passOut 43) 43 lv st w nx K Rt = (z_1i st (fun x r => z_ok1 lv 4 = true ∧ nx 45 (lv.set 4 (some (.int x))) r w)) := id rfl
theorem sX8_passOut_45 (lv : zL) (st : List Value) (w : zW) (nx K : Nat → zL → List Value → zW → Prop) (Rt : Option Value → zW → Prop) : z_st1 (tX8_passOut 45) 45 lv st w nx K Rt = (z_li lv 4 (fun x => nx 47 lv (.int x :: st) w)) := id rfl
theorem sX8_passOut_47 (lv : zL) (st : List Value) (w : zW) (nx K : Nat → zL → List Value → zW → Prop) (Rt : Option Value → zW → Prop) : z_st1 (tX8_passOut 47) 47 lv st w nx K Rt = (nx 48 lv (.int (2 : Int32) :: st) w) := id rfl
theorem sX8_passOut_48 (lv : zL) (st : List Value) (w : zW) (nx K : Nat → zL → List Value → zW → Prop) (Rt : Option Value → zW → Prop) : z_st1 (tX8_passOut 48) 48 lv st w nx K Rt = (z_2i st (fun x y r => (¬ x = y → nx 60 lv r w) ∧ (x = y → nx 51 lv r w))) := id rfl
theorem sX8_passOut_51 (lv : zL) (st : List Value) (w : zW) (nx K : Nat → zL → List Value → zW → Prop) (Rt : Option Value → zW → Prop) : z_st1 (tX8_passOut 51) 51 lv st w nx K Rt = (z_la lv 0 (fun x => nx 52 lv (.ref x :: st) w)) := id rfl
theorem sX8_passOut_52 (lv : zL) (st : List Value) (w : zW) (nx K : Nat → zL → List Value → zW → Prop) (Rt : Option Value → zW → Prop) : z_st1 (tX8_passOut 52) 52 lv st w nx K Rt = (z_1a st (fun x r => z_ob w x 9 (fun fs => z_fl fs 1 (fun u => nx 55 lv (u :: r) w)))) := id rfl
theorem sX8_passOut_55 (lv : zL) (st : List Value) (w : zW) (nx K : Nat → zL → List Value → zW → Prop) (Rt : Option Value → zW → Prop) : z_st1 (tX8_passOut 55) 55 lv st w nx K Rt = (z_li lv 3 (fun x => nx 56 lv (.int x :: st) w)) := id rfl
theorem sX8_passOut_59 (lv : zL) (st : List Value) (w : zW) (nx K : Nat → zL → List Value → zW → Prop) (Rt : Option Value → zW → Prop) : z_st1 (tX8_passOut 59) 59 lv st w nx K Rt = (z_e1 st (fun x => Rt (some (.int x)) w)) := id rfl
theorem sX8_passOut_60 (lv : zL) (st : List Value) (w : zW) (nx K : Nat → zL → List Value → zW → Prop) (Rt : Option Value → zW → Prop) : z_st1 (tX8_passOut 60) 60 lv st w nx K Rt = (z_li lv 4 (fun x => nx 62 lv (.int x :: st) w)) := id rfl
theorem sX8_passOut_62 (lv : zL) (st : List Value) (w : zW) (nx K : Nat → zL → List Value → zW → Prop) (Rt : Option Value → zW → Prop) : z_st1 (tX8_passOut 62) 62 lv st w nx K Rt = (nx 63 lv (.int (1 : Int32) :: st) w) := id rfl
theorem sX8_passOut_63 (lv : zL) (st : List Value) (w : zW) (nx K : Nat → zL → List Value → zW → Prop) (Rt : Option Value → zW → Prop) : z_st1 (tX8_passOut 63) 63 lv st w nx K Rt = (z_2i st (fun x y r => (¬ x = y → nx 82 lv r w) ∧ (x = y → nx 66 lv r w))) := id rfl
theorem sX8_passOut_66 (lv : zL) (st : List Value) (w : zW) (nx K : Nat → zL → List Value → zW → Prop) (Rt : Option Value → zW → Prop) : z_st1 (tX8_passOut 66) 66 lv st w nx K Rt = (z_la lv 0 (fun x => nx 67 lv (.ref x :: st) w)) := id rfl
theorem sX8_passOut_67 (lv : zL) (st : List Value) (w : zW) (nx K : Nat → zL → List Value → zW → Prop) (Rt : Option Value → zW → Prop) : z_st1 (tX8_passOut 67) 67 lv st w nx K Rt = (z_1a st (fun x r => z_ob w x 9 (fun fs => z_fl fs 18 (fun u => nx 70 lv (u :: r) w)))) := id rfl
theorem sX8_passOut_70 (lv : zL) (st : List Value) (w : zW) (nx K : Nat → zL → List Value → zW → Prop) (Rt : Option Value → zW → Prop) : z_st1 (tX8_passOut 70) 70 lv st w nx K Rt = (z_d1 st (fun x r => nx 71 lv (x :: x :: r) w)) := id rfl
theorem sX8_passOut_71 (lv : zL) (st : List Value) (w : zW) (nx K : Nat → zL → List Value → zW → Prop) (Rt : Option Value → zW → Prop) : z_st1 (tX8_passOut 71) 71 lv st w nx K Rt = (z_1a st (fun x r => z_ob w x 8 (fun fs => z_fl fs 4 (fun u => nx 74 lv (u :: r) w)))) := id rfl
theorem sX8_passOut_74 (lv : zL) (st : List Value) (w : zW) (nx K : Nat → zL → List Value → zW → Prop) (Rt : Option Value → zW → Prop) : z_st1 (tX8_passOut 74) 74 lv st w nx K Rt = (nx 75 lv (.int (1 : Int32) :: st) w) := id rfl
theorem sX8_passOut_75 (lv : zL) (st : List Value) (w : zW) (nx K : Nat → zL → List Value → zW → Prop) (Rt : Option Value → zW → Prop) : z_st1 (tX8_passOut 75) 75 lv st w nx K Rt = (z_2i st (fun x y r => nx 76 lv (.int (x + y) :: r) w)) := id rfl
theorem sX8_passOut_76 (lv : zL) (st : List Value) (w : zW) (nx K : Nat → zL → List Value → zW → Prop) (Rt : Option Value → zW → Prop) : z_st1 (tX8_passOut 76) 76 lv st w nx K Rt = (z_ia st (fun x i r => z_ob w x 8 (fun fs => 4 < fs.length ∧ nx 79 lv r (z_up w x (.inr (8, fs.set 4 (.int i))))))) := id rfl
theorem sX8_passOut_79 (lv : zL) (st : List Value) (w : zW) (nx K : Nat → zL → List Value → zW → Prop) (Rt : Option Value → zW → Prop) : z_st1 (tX8_passOut 79) 79 lv st w nx K Rt = (nx 94 lv st w) := id rfl
theorem sX8_passOut_82 (lv : zL) (st : List Value) (w : zW) (nx K : Nat → zL → List Value → zW → Prop) (Rt : Option Value → zW → Prop) : z_st1 (tX8_passOut 82) 82 lv st w nx K Rt = (z_la lv 0 (fun x => nx 83 lv (.ref x :: st) w)) := id rfl
theorem sX8_passOut_83 (lv : zL) (st : List Value) (w : zW) (nx K : Nat → zL → List Value → zW → Prop) (Rt : Option Value → zW → Prop) : z_st1 (tX8_passOut 83) 83 lv st w nx K Rt = (z_1a st (fun x r => z_ob w x 9 (fun fs => z_fl fs 3 (fun u => nx 86 lv (u :: r) w)))) := id rfl
theorem sX8_passOut_86 (lv : zL) (st : List Value) (w : zW) (nx K : Nat → zL → List Value → zW → Prop) (Rt : Option Value → zW → Prop) : z_st1 (tX8_passOut 86) 86 lv st w nx K Rt = (z_li lv 1 (fun x => nx 87 lv (.int x :: st) w)) := id rfl
theorem sX8_passOut_87 (lv : zL) (st : List Value) (w : zW) (nx K : Nat → zL → List Value → zW → Prop) (Rt : Option Value → zW → Prop) : z_st1 (tX8_passOut 87) 87 lv st w nx K Rt = (z_li lv 3 (fun x => nx 88 lv (.int x :: st) w)) := id rfl
theorem sX8_passOut_91 (lv : zL) (st : List Value) (w : zW) (nx K : Nat → zL → List Value → zW → Prop) (Rt : Option Value → zW → Prop) : z_st1 (tX8_passOut 91) 91 lv st w nx K Rt = (z_li lv 1 (fun x => z_ok1 lv 1 = true ∧ nx 94 (lv.set 1 (some (.int (x + (1 : Int32))))) st w)) := id rfl
theorem sX8_passOut_94 (lv : zL) (st : List Value) (w : zW) (nx K : Nat → zL → List Value → zW → Prop) (Rt : Option Value → zW → Prop) : z_st1 (tX8_passOut 94) 94 lv st w nx K Rt = (z_li lv 2 (fun x => z_ok1 lv 2 = true ∧ nx 97 (lv.set 2 (some (.int (x + (1 : Int32))))) st w)) := id rfl
theorem sX8_passOut_97 (lv : zL) (st : List Value) (w : zW) (nx K : Nat → zL → List Value → zW → Prop) (Rt : Option Value → zW → Prop) : z_st1 (tX8_passOut 97) 97 lv st w nx K Rt = (nx 11 lv st w) := id rfl
theorem sX8_passOut_100 (lv : zL) (st : List Value) (w : zW) (nx K : Nat → zL → List Value → zW → Prop) (Rt : Option Value → zW → Prop) : z_st1 (tX8_passOut 100) 100 lv st w nx K Rt = (z_la lv 0 (fun x => nx 101 lv (.ref x :: st) w)) := id rfl
theorem sX8_passOut_101 (lv : zL) (st : List Value) (w : zW) (nx K : Nat → zL → List Value → zW → Prop) (Rt : Option Value → zW → Prop) : z_st1 (tX8_passOut 101) 101 lv st w nx K Rt = (z_1a st (fun x r => z_ob w x 9 (fun fs => z_fl fs 3 (fun u => nx 104 lv (u :: r) w)))) := id rfl
theorem sX8_passOut_104 (lv : zL) (st : List Value) (w : zW) (nx K : Nat → zL → List Value → zW → Prop) (Rt : Option Value → zW → Prop) : z_st1 (tX8_passOut 104) 104 lv st w nx K Rt = (z_li lv 1 (fun x => nx 105 lv (.int x :: st) w)) := id rfl
theorem sX8_passOut_108 (lv : zL) (st : List Value) (w : zW) (nx K : Nat → zL → List Value → zW → Prop) (Rt : Option Value → zW → Prop) : z_st1 (tX8_passOut 108) 108 lv st w nx K Rt = (nx 109 lv (.int (-1 : Int32) :: st) w) := id rfl
theorem sX8_passOut_109 (lv : zL) (st : List Value) (w : zW) (nx K : Nat → zL → List Value → zW → Prop) (Rt : Option Value → zW → Prop) : z_st1 (tX8_passOut 109) 109 lv st w nx K Rt = (z_e1 st (fun x => Rt (some (.int x)) w)) := id rfl
theorem sX8_passOut_4 (lv : zL) (st : List Value) (w : zW) (nx K : Nat → zL → List Value → zW → Prop) (Rt : Option Value → zW → Prop) : z_st1 (tX8_passOut 4) 4 lv st w nx K Rt = K 4 lv st w := id rfl
theorem sX8_passOut_16 (lv : zL) (st : List Value) (w : zW) (nx K : Nat → zL → List Value → zW → Prop) (Rt : Option Value → zW → Prop) : z_st1 (tX8_passOut 16) 16 lv st w nx K Rt = K 16 lv st w := id rfl
theorem sX8_passOut_27 (lv : zL) (st : List Value) (w : zW) (nx K : Nat → zL → List Value → zW → Prop) (Rt : Option Value → zW → Prop) : z_st1 (tX8_passOut 27) 27 lv st w nx K Rt = K 27 lv st w := id rfl
theorem sX8_passOut_40 (lv : zL) (st : List Value) (w : zW) (nx K : Nat → zL → List Value → zW → Prop) (Rt : Option Value → zW → Prop) : z_st1 (tX8_passOut 40) 40 lv st w nx K Rt = K 40 lv st w := id rfl
theorem sX8_passOut_56 (lv : zL) (st : List Value) (w : zW) (nx K : Nat → zL → List Value → zW → Prop) (Rt : Option Value → zW → Prop) : z_st1 (tX8_passOut 56) 56 lv st w nx K Rt = K 56 lv st w := id rfl
theorem sX8_passOut_88 (lv : zL) (st : List Value) (w : zW) (nx K : Nat → zL → List Value → zW → Prop) (Rt : Option Value → zW → Prop) : z_st1 (tX8_passOut 88) 88 lv st w nx K Rt = K 88 lv st w := id rfl
theorem sX8_passOut_105 (lv : zL) (st : List Value) (w : zW) (nx K : Nat → zL → List Value → zW → Prop) (Rt : Option Value → zW → Prop) : z_st1 (tX8_passOut 105) 105 lv st w nx K Rt = K 105 lv st w := id rfl
theorem dX8_passOut_4 : decode cX8_passOut 4 = .ok (.invokevirtual 231, 3) := by decide +kernel
theorem dX8_passOut_16 : decode cX8_passOut 16 = .ok (.invokevirtual 188, 3) := by decide +kernel
theorem dX8_passOut_27 : decode cX8_passOut 27 = .ok (.invokevirtual 189, 3) := by decide +kernel
theorem dX8_passOut_40 : decode cX8_passOut 40 = .ok (.invokevirtual 242, 3) := by decide +kernel
theorem dX8_passOut_56 : decode cX8_passOut 56 = .ok (.invokevirtual 118, 3) := by decide +kernel
theorem dX8_passOut_88 : decode cX8_passOut 88 = .ok (.invokevirtual 256, 3) := by decide +kernel
theorem dX8_passOut_105 : decode cX8_passOut 105 = .ok (.invokevirtual 258, 3) := by decide +kernel

def tmX8_copyInputs (pc : Nat) : zI := match pc with
  | 0 => (1, 0, 0, 1, 0)
  | 1 => (46, 9, 1, 4, 0)
  | 7 => (1, 0, 0, 8, 0)
  | 8 => (46, 9, 3, 11, 0)
  | 14 => (6, 0, 0, 15, 0)
  | 15 => (3, 1, 0, 16, 0)
  | 16 => (0, 1, 0, 17, 0)
  | 17 => (6, 0, 0, 19, 8)
  | 19 => (43, 84, 0, 22, 0)
  | 22 => (1, 0, 0, 23, 0)
  | 23 => (46, 9, 3, 26, 0)
  | 29 => (6, 0, 0, 30, 0)
  | 30 => (3, 2, 0, 31, 0)
  | 31 => (0, 2, 0, 32, 0)
  | 32 => (1, 0, 0, 33, 0)
  | 33 => (46, 9, 8, 36, 0)
  | 36 => (0, 1, 0, 37, 0)
  | 40 => (43, 78, 0, 43, 0)
  | 43 => (1, 0, 0, 44, 0)
  | 44 => (46, 9, 3, 47, 0)
  | 47 => (1, 0, 0, 48, 0)
  | 48 => (46, 9, 1, 51, 0)
  | 51 => (1, 0, 0, 52, 0)
  | 52 => (46, 9, 0, 55, 0)
  | 55 => (1, 0, 0, 56, 0)
  | 56 => (46, 9, 8, 59, 0)
  | 59 => (0, 1, 0, 60, 0)
  | 60 => (0, 2, 0, 61, 0)
  | 64 => (6, 0, 0, 65, 1)
  | 65 => (9, 0, 0, 66, 0)
  | 72 => (7, 2, 0, 75, 1)
  | 75 => (33, 31, 0, 78, 0)
  | 78 => (7, 1, 0, 81, 1)
  | 81 => (33, 16, 0, 84, 0)
  | 84 => (1, 0, 0, 85, 0)
  | 85 => (46, 9, 3, 88, 0)
  | 91 => (55, 0, 0, 92, 0)
  | _ => (99, 0, 0, 0, 0)
def tX8_copyInputs (pc : Nat) : zI := if pc < 92 then tmX8_copyInputs pc else (99, 0, 0, 0, 0)
theorem tkX8_copyInputs : z_tab RX8 wsX8_copyInputs 3 none cX8_copyInputs 92 tX8_copyInputs := z_tab_of (tm := tmX8_copyInputs) (by decide +kernel)
theorem sX8_copyInputs_0 (lv : zL) (st : List Value) (w : zW) (nx K : Nat → zL → List Value → zW → Prop) (Rt : Option Value → zW → Prop) : z_st1 (tX8_copyInputs 0) 0 lv st w nx K Rt = (z_la lv 0 (fun x => nx 1 lv (.ref x :: st) w)) := id rfl
theorem sX8_copyInputs_1 (lv : zL) (st : List Value) (w : zW) (nx K : Nat → zL → List Value → zW → Prop) (Rt : Option Value → zW → Prop) : z_st1 (tX8_copyInputs 1) 1 lv st w nx K Rt = (z_1a st (fun x r => z_ob w x 9 (fun fs => z_fl fs 1 (fun u => nx 4 lv (u :: r) w)))) := id rfl
theorem sX8_copyInputs_7 (lv : zL) (st : List Value) (w : zW) (nx K : Nat → zL → List Value → zW → Prop) (Rt : Option Value → zW → Prop) : z_st1 (tX8_copyInputs 7) 7 lv st w nx K Rt = (z_la lv 0 (fun x => nx 8 lv (.ref x :: st) w)) := id rfl
theorem sX8_copyInputs_8 (lv : zL) (st : List Value) (w : zW) (nx K : Nat → zL → List Value → zW → Prop) (Rt : Option Value → zW → Prop) : z_st1 (tX8_copyInputs 8) 8 lv st w nx K Rt = (z_1a st (fun x r => z_ob w x 9 (fun fs => z_fl fs 3 (fun u => nx 11 lv (u :: r) w)))) := id rfl
theorem sX8_copyInputs_14 (lv : zL) (st : List Value) (w : zW) (nx K : Nat → zL → List Value → zW → Prop) (Rt : Option Value → zW → Prop) : z_st1 (tX8_copyInputs 14) 14 lv st w nx K Rt = (nx 15 lv (.int (0 : Int32) :: st) w) := id rfl
theorem sX8_copyInputs_15 (lv : zL) (st : List Value) (w : zW) (nx K : Nat → zL → List Value → zW → Prop) (Rt : Option Value → zW → Prop) : z_st1 (tX8_copyInputs 15) 15 lv st w nx K Rt = (z_1i st (fun x r => z_ok1 lv 1 = true ∧ nx 16 (lv.set 1 (some (.int x))) r w)) := id rfl
theorem sX8_copyInputs_16 (lv : zL) (st : List Value) (w : zW) (nx K : Nat → zL → List Value → zW → Prop) (Rt : Option Value → zW → Prop) : z_st1 (tX8_copyInputs 16) 16 lv st w nx K Rt = (z_li lv 1 (fun x => nx 17 lv (.int x :: st) w)) := id rfl
theorem sX8_copyInputs_17 (lv : zL) (st : List Value) (w : zW) (nx K : Nat → zL → List Value → zW → Prop) (Rt : Option Value → zW → Prop) : z_st1 (tX8_copyInputs 17) 17 lv st w nx K Rt = (nx 19 lv (.int (8 : Int32) :: st) w) := id rfl
theorem sX8_copyInputs_19 (lv : zL) (st : List Value) (w : zW) (nx K : Nat → zL → List Value → zW → Prop) (Rt : Option Value → zW → Prop) : z_st1 (tX8_copyInputs 19) 19 lv st w nx K Rt = (z_2i st (fun x y r => (y ≤ x → nx 84 lv r w) ∧ (¬ y ≤ x → nx 22 lv r w))) := id rfl
theorem sX8_copyInputs_22 (lv : zL) (st : List Value) (w : zW) (nx K : Nat → zL → List Value → zW → Prop) (Rt : Option Value → zW → Prop) : z_st1 (tX8_copyInputs 22) 22 lv st w nx K Rt = (z_la lv 0 (fun x => nx 23 lv (.ref x :: st) w)) := id rfl
theorem sX8_copyInputs_23 (lv : zL) (st : List Value) (w : zW) (nx K : Nat → zL → List Value → zW → Prop) (Rt : Option Value → zW → Prop) : z_st1 (tX8_copyInputs 23) 23 lv st w nx K Rt = (z_1a st (fun x r => z_ob w x 9 (fun fs => z_fl fs 3 (fun u => nx 26 lv (u :: r) w)))) := id rfl
theorem sX8_copyInputs_29 (lv : zL) (st : List Value) (w : zW) (nx K : Nat → zL → List Value → zW → Prop) (Rt : Option Value → zW → Prop) : z_st1 (tX8_copyInputs 29) 29 lv st w nx K Rt = (nx 30 lv (.int (0 : Int32) :: st) w) := id rfl
theorem sX8_copyInputs_30 (lv : zL) (st : List Value) (w : zW) (nx K : Nat → zL → List Value → zW → Prop) (Rt : Option Value → zW → Prop) : z_st1 (tX8_copyInputs 30) 30 lv st w nx K Rt = (z_1i st (fun x r => z_ok1 lv 2 = true ∧ nx 31 (lv.set 2 (some (.int x))) r w)) := id rfl
theorem sX8_copyInputs_31 (lv : zL) (st : List Value) (w : zW) (nx K : Nat → zL → List Value → zW → Prop) (Rt : Option Value → zW → Prop) : z_st1 (tX8_copyInputs 31) 31 lv st w nx K Rt = (z_li lv 2 (fun x => nx 32 lv (.int x :: st) w)) := id rfl
theorem sX8_copyInputs_32 (lv : zL) (st : List Value) (w : zW) (nx K : Nat → zL → List Value → zW → Prop) (Rt : Option Value → zW → Prop) : z_st1 (tX8_copyInputs 32) 32 lv st w nx K Rt = (z_la lv 0 (fun x => nx 33 lv (.ref x :: st) w)) := id rfl
theorem sX8_copyInputs_33 (lv : zL) (st : List Value) (w : zW) (nx K : Nat → zL → List Value → zW → Prop) (Rt : Option Value → zW → Prop) : z_st1 (tX8_copyInputs 33) 33 lv st w nx K Rt = (z_1a st (fun x r => z_ob w x 9 (fun fs => z_fl fs 8 (fun u => nx 36 lv (u :: r) w)))) := id rfl
theorem sX8_copyInputs_36 (lv : zL) (st : List Value) (w : zW) (nx K : Nat → zL → List Value → zW → Prop) (Rt : Option Value → zW → Prop) : z_st1 (tX8_copyInputs 36) 36 lv st w nx K Rt = (z_li lv 1 (fun x => nx 37 lv (.int x :: st) w)) := id rfl
theorem sX8_copyInputs_40 (lv : zL) (st : List Value) (w : zW) (nx K : Nat → zL → List Value → zW → Prop) (Rt : Option Value → zW → Prop) : z_st1 (tX8_copyInputs 40) 40 lv st w nx K Rt = (z_2i st (fun x y r => (y ≤ x → nx 78 lv r w) ∧ (¬ y ≤ x → nx 43 lv r w))) := id rfl
theorem sX8_copyInputs_43 (lv : zL) (st : List Value) (w : zW) (nx K : Nat → zL → List Value → zW → Prop) (Rt : Option Value → zW → Prop) : z_st1 (tX8_copyInputs 43) 43 lv st w nx K Rt = (z_la lv 0 (fun x => nx 44 lv (.ref x :: st) w)) := id rfl
theorem sX8_copyInputs_44 (lv : zL) (st : List Value) (w : zW) (nx K : Nat → zL → List Value → zW → Prop) (Rt : Option Value → zW → Prop) : z_st1 (tX8_copyInputs 44) 44 lv st w nx K Rt = (z_1a st (fun x r => z_ob w x 9 (fun fs => z_fl fs 3 (fun u => nx 47 lv (u :: r) w)))) := id rfl
theorem sX8_copyInputs_47 (lv : zL) (st : List Value) (w : zW) (nx K : Nat → zL → List Value → zW → Prop) (Rt : Option Value → zW → Prop) : z_st1 (tX8_copyInputs 47) 47 lv st w nx K Rt = (z_la lv 0 (fun x => nx 48 lv (.ref x :: st) w)) := id rfl
theorem sX8_copyInputs_48 (lv : zL) (st : List Value) (w : zW) (nx K : Nat → zL → List Value → zW → Prop) (Rt : Option Value → zW → Prop) : z_st1 (tX8_copyInputs 48) 48 lv st w nx K Rt = (z_1a st (fun x r => z_ob w x 9 (fun fs => z_fl fs 1 (fun u => nx 51 lv (u :: r) w)))) := id rfl
theorem sX8_copyInputs_51 (lv : zL) (st : List Value) (w : zW) (nx K : Nat → zL → List Value → zW → Prop) (Rt : Option Value → zW → Prop) : z_st1 (tX8_copyInputs 51) 51 lv st w nx K Rt = (z_la lv 0 (fun x => nx 52 lv (.ref x :: st) w)) := id rfl
theorem sX8_copyInputs_52 (lv : zL) (st : List Value) (w : zW) (nx K : Nat → zL → List Value → zW → Prop) (Rt : Option Value → zW → Prop) : z_st1 (tX8_copyInputs 52) 52 lv st w nx K Rt = (z_1a st (fun x r => z_ob w x 9 (fun fs => z_fl fs 0 (fun u => nx 55 lv (u :: r) w)))) := id rfl
theorem sX8_copyInputs_55 (lv : zL) (st : List Value) (w : zW) (nx K : Nat → zL → List Value → zW → Prop) (Rt : Option Value → zW → Prop) : z_st1 (tX8_copyInputs 55) 55 lv st w nx K Rt = (z_la lv 0 (fun x => nx 56 lv (.ref x :: st) w)) := id rfl
theorem sX8_copyInputs_56 (lv : zL) (st : List Value) (w : zW) (nx K : Nat → zL → List Value → zW → Prop) (Rt : Option Value → zW → Prop) : z_st1 (tX8_copyInputs 56) 56 lv st w nx K Rt = (z_1a st (fun x r => z_ob w x 9 (fun fs => z_fl fs 8 (fun u => nx 59 lv (u :: r) w)))) := id rfl
theorem sX8_copyInputs_59 (lv : zL) (st : List Value) (w : zW) (nx K : Nat → zL → List Value → zW → Prop) (Rt : Option Value → zW → Prop) : z_st1 (tX8_copyInputs 59) 59 lv st w nx K Rt = (z_li lv 1 (fun x => nx 60 lv (.int x :: st) w)) := id rfl
theorem sX8_copyInputs_60 (lv : zL) (st : List Value) (w : zW) (nx K : Nat → zL → List Value → zW → Prop) (Rt : Option Value → zW → Prop) : z_st1 (tX8_copyInputs 60) 60 lv st w nx K Rt = (z_li lv 2 (fun x => nx 61 lv (.int x :: st) w)) := id rfl
theorem sX8_copyInputs_64 (lv : zL) (st : List Value) (w : zW) (nx K : Nat → zL → List Value → zW → Prop) (Rt : Option Value → zW → Prop) : z_st1 (tX8_copyInputs 64) 64 lv st w nx K Rt = (nx 65 lv (.int (1 : Int32) :: st) w) := id rfl
theorem sX8_copyInputs_65 (lv : zL) (st : List Value) (w : zW) (nx K : Nat → zL → List Value → zW → Prop) (Rt : Option Value → zW → Prop) : z_st1 (tX8_copyInputs 65) 65 lv st w nx K Rt = (z_2i st (fun x y r => nx 66 lv (.int (x - y) :: r) w)) := id rfl
theorem sX8_copyInputs_72 (lv : zL) (st : List Value) (w : zW) (nx K : Nat → zL → List Value → zW → Prop) (Rt : Option Value → zW → Prop) : z_st1 (tX8_copyInputs 72) 72 lv st w nx K Rt = (z_li lv 2 (fun x => z_ok1 lv 2 = true ∧ nx 75 (lv.set 2 (some (.int (x + (1 : Int32))))) st w)) := id rfl
theorem sX8_copyInputs_75 (lv : zL) (st : List Value) (w : zW) (nx K : Nat → zL → List Value → zW → Prop) (Rt : Option Value → zW → Prop) : z_st1 (tX8_copyInputs 75) 75 lv st w nx K Rt = (nx 31 lv st w) := id rfl
theorem sX8_copyInputs_78 (lv : zL) (st : List Value) (w : zW) (nx K : Nat → zL → List Value → zW → Prop) (Rt : Option Value → zW → Prop) : z_st1 (tX8_copyInputs 78) 78 lv st w nx K Rt = (z_li lv 1 (fun x => z_ok1 lv 1 = true ∧ nx 81 (lv.set 1 (some (.int (x + (1 : Int32))))) st w)) := id rfl
theorem sX8_copyInputs_81 (lv : zL) (st : List Value) (w : zW) (nx K : Nat → zL → List Value → zW → Prop) (Rt : Option Value → zW → Prop) : z_st1 (tX8_copyInputs 81) 81 lv st w nx K Rt = (nx 16 lv st w) := id rfl
theorem sX8_copyInputs_84 (lv : zL) (st : List Value) (w : zW) (nx K : Nat → zL → List Value → zW → Prop) (Rt : Option Value → zW → Prop) : z_st1 (tX8_copyInputs 84) 84 lv st w nx K Rt = (z_la lv 0 (fun x => nx 85 lv (.ref x :: st) w)) := id rfl
theorem sX8_copyInputs_85 (lv : zL) (st : List Value) (w : zW) (nx K : Nat → zL → List Value → zW → Prop) (Rt : Option Value → zW → Prop) : z_st1 (tX8_copyInputs 85) 85 lv st w nx K Rt = (z_1a st (fun x r => z_ob w x 9 (fun fs => z_fl fs 3 (fun u => nx 88 lv (u :: r) w)))) := id rfl
theorem sX8_copyInputs_91 (lv : zL) (st : List Value) (w : zW) (nx K : Nat → zL → List Value → zW → Prop) (Rt : Option Value → zW → Prop) : z_st1 (tX8_copyInputs 91) 91 lv st w nx K Rt = (z_e0 st (Rt none w)) := id rfl
theorem sX8_copyInputs_4 (lv : zL) (st : List Value) (w : zW) (nx K : Nat → zL → List Value → zW → Prop) (Rt : Option Value → zW → Prop) : z_st1 (tX8_copyInputs 4) 4 lv st w nx K Rt = K 4 lv st w := id rfl
theorem sX8_copyInputs_11 (lv : zL) (st : List Value) (w : zW) (nx K : Nat → zL → List Value → zW → Prop) (Rt : Option Value → zW → Prop) : z_st1 (tX8_copyInputs 11) 11 lv st w nx K Rt = K 11 lv st w := id rfl
theorem sX8_copyInputs_26 (lv : zL) (st : List Value) (w : zW) (nx K : Nat → zL → List Value → zW → Prop) (Rt : Option Value → zW → Prop) : z_st1 (tX8_copyInputs 26) 26 lv st w nx K Rt = K 26 lv st w := id rfl
theorem sX8_copyInputs_37 (lv : zL) (st : List Value) (w : zW) (nx K : Nat → zL → List Value → zW → Prop) (Rt : Option Value → zW → Prop) : z_st1 (tX8_copyInputs 37) 37 lv st w nx K Rt = K 37 lv st w := id rfl
theorem sX8_copyInputs_61 (lv : zL) (st : List Value) (w : zW) (nx K : Nat → zL → List Value → zW → Prop) (Rt : Option Value → zW → Prop) : z_st1 (tX8_copyInputs 61) 61 lv st w nx K Rt = K 61 lv st w := id rfl
theorem sX8_copyInputs_66 (lv : zL) (st : List Value) (w : zW) (nx K : Nat → zL → List Value → zW → Prop) (Rt : Option Value → zW → Prop) : z_st1 (tX8_copyInputs 66) 66 lv st w nx K Rt = K 66 lv st w := id rfl
theorem sX8_copyInputs_69 (lv : zL) (st : List Value) (w : zW) (nx K : Nat → zL → List Value → zW → Prop) (Rt : Option Value → zW → Prop) : z_st1 (tX8_copyInputs 69) 69 lv st w nx K Rt = K 69 lv st w := id rfl
theorem sX8_copyInputs_88 (lv : zL) (st : List Value) (w : zW) (nx K : Nat → zL → List Value → zW → Prop) (Rt : Option Value → zW → Prop) : z_st1 (tX8_copyInputs 88) 88 lv st w nx K Rt = K 88 lv st w := id rfl
theorem dX8_copyInputs_4 : decode cX8_copyInputs 4 = .ok (.invokevirtual 229, 3) := by decide +kernel
theorem dX8_copyInputs_11 : decode cX8_copyInputs 11 = .ok (.invokevirtual 230, 3) := by decide +kernel
theorem dX8_copyInputs_26 : decode cX8_copyInputs 26 = .ok (.invokevirtual 261, 3) := by decide +kernel
theorem dX8_copyInputs_37 : decode cX8_copyInputs 37 = .ok (.invokevirtual 264, 3) := by decide +kernel
theorem dX8_copyInputs_61 : decode cX8_copyInputs 61 = .ok (.invokevirtual 266, 3) := by decide +kernel
theorem dX8_copyInputs_66 : decode cX8_copyInputs 66 = .ok (.invokevirtual 238, 3) := by decide +kernel
theorem dX8_copyInputs_69 : decode cX8_copyInputs 69 = .ok (.invokevirtual 248, 3) := by decide +kernel
theorem dX8_copyInputs_88 : decode cX8_copyInputs 88 = .ok (.invokevirtual 268, 3) := by decide +kernel

def tmX8_beginOutput (pc : Nat) : zI := match pc with
  | 0 => (1, 0, 0, 1, 0)
  | 1 => (6, 0, 0, 2, 2)
  | 2 => (47, 9, 13, 5, 0)
  | 5 => (1, 0, 0, 6, 0)
  | 6 => (6, 0, 0, 7, 0)
  | 7 => (47, 9, 14, 10, 0)
  | 10 => (1, 0, 0, 11, 0)
  | 11 => (6, 0, 0, 12, (-1))
  | 12 => (47, 9, 15, 15, 0)
  | 15 => (1, 0, 0, 16, 0)
  | 16 => (46, 9, 3, 19, 0)
  | 22 => (53, 0, 0, 23, 0)
  | _ => (99, 0, 0, 0, 0)
def tX8_beginOutput (pc : Nat) : zI := if pc < 23 then tmX8_beginOutput pc else (99, 0, 0, 0, 0)
theorem tkX8_beginOutput : z_tab RX8 wsX8_beginOutput 1 (some .int) cX8_beginOutput 23 tX8_beginOutput := z_tab_of (tm := tmX8_beginOutput) (by decide +kernel)
theorem sX8_beginOutput_0 (lv : zL) (st : List Value) (w : zW) (nx K : Nat → zL → List Value → zW → Prop) (Rt : Option Value → zW → Prop) : z_st1 (tX8_beginOutput 0) 0 lv st w nx K Rt = (z_la lv 0 (fun x => nx 1 lv (.ref x :: st) w)) := id rfl
theorem sX8_beginOutput_1 (lv : zL) (st : List Value) (w : zW) (nx K : Nat → zL → List Value → zW → Prop) (Rt : Option Value → zW → Prop) : z_st1 (tX8_beginOutput 1) 1 lv st w nx K Rt = (nx 2 lv (.int (2 : Int32) :: st) w) := id rfl
theorem sX8_beginOutput_2 (lv : zL) (st : List Value) (w : zW) (nx K : Nat → zL → List Value → zW → Prop) (Rt : Option Value → zW → Prop) : z_st1 (tX8_beginOutput 2) 2 lv st w nx K Rt = (z_ia st (fun x i r => z_ob w x 9 (fun fs => 13 < fs.length ∧ nx 5 lv r (z_up w x (.inr (9, fs.set 13 (.int i))))))) := id rfl
theorem sX8_beginOutput_5 (lv : zL) (st : List Value) (w : zW) (nx K : Nat → zL → List Value → zW → Prop) (Rt : Option Value → zW → Prop) : z_st1 (tX8_beginOutput 5) 5 lv st w nx K Rt = (z_la lv 0 (fun x => nx 6 lv (.ref x :: st) w)) := id rfl
theorem sX8_beginOutput_6 (lv : zL) (st : List Value) (w : zW) (nx K : Nat → zL → List Value → zW → Prop) (Rt : Option Value → zW → Prop) : z_st1 (tX8_beginOutput 6) 6 lv st w nx K Rt = (nx 7 lv (.int (0 : Int32) :: st) w) := id rfl
theorem sX8_beginOutput_7 (lv : zL) (st : List Value) (w : zW) (nx K : Nat → zL → List Value → zW → Prop) (Rt : Option Value → zW → Prop) : z_st1 (tX8_beginOutput 7) 7 lv st w nx K Rt = (z_ia st (fun x i r => z_ob w x 9 (fun fs => 14 < fs.length ∧ nx 10 lv r (z_up w x (.inr (9, fs.set 14 (.int i))))))) := id rfl
theorem sX8_beginOutput_10 (lv : zL) (st : List Value) (w : zW) (nx K : Nat → zL → List Value → zW → Prop) (Rt : Option Value → zW → Prop) : z_st1 (tX8_beginOutput 10) 10 lv st w nx K Rt = (z_la lv 0 (fun x => nx 11 lv (.ref x :: st) w)) := id rfl
theorem sX8_beginOutput_11 (lv : zL) (st : List Value) (w : zW) (nx K : Nat → zL → List Value → zW → Prop) (Rt : Option Value → zW → Prop) : z_st1 (tX8_beginOutput 11) 11 lv st w nx K Rt = (nx 12 lv (.int (-1 : Int32) :: st) w) := id rfl
theorem sX8_beginOutput_12 (lv : zL) (st : List Value) (w : zW) (nx K : Nat → zL → List Value → zW → Prop) (Rt : Option Value → zW → Prop) : z_st1 (tX8_beginOutput 12) 12 lv st w nx K Rt = (z_ia st (fun x i r => z_ob w x 9 (fun fs => 15 < fs.length ∧ nx 15 lv r (z_up w x (.inr (9, fs.set 15 (.int i))))))) := id rfl
theorem sX8_beginOutput_15 (lv : zL) (st : List Value) (w : zW) (nx K : Nat → zL → List Value → zW → Prop) (Rt : Option Value → zW → Prop) : z_st1 (tX8_beginOutput 15) 15 lv st w nx K Rt = (z_la lv 0 (fun x => nx 16 lv (.ref x :: st) w)) := id rfl
theorem sX8_beginOutput_16 (lv : zL) (st : List Value) (w : zW) (nx K : Nat → zL → List Value → zW → Prop) (Rt : Option Value → zW → Prop) : z_st1 (tX8_beginOutput 16) 16 lv st w nx K Rt = (z_1a st (fun x r => z_ob w x 9 (fun fs => z_fl fs 3 (fun u => nx 19 lv (u :: r) w)))) := id rfl
theorem sX8_beginOutput_22 (lv : zL) (st : List Value) (w : zW) (nx K : Nat → zL → List Value → zW → Prop) (Rt : Option Value → zW → Prop) : z_st1 (tX8_beginOutput 22) 22 lv st w nx K Rt = (z_e1 st (fun x => Rt (some (.int x)) w)) := id rfl
theorem sX8_beginOutput_19 (lv : zL) (st : List Value) (w : zW) (nx K : Nat → zL → List Value → zW → Prop) (Rt : Option Value → zW → Prop) : z_st1 (tX8_beginOutput 19) 19 lv st w nx K Rt = K 19 lv st w := id rfl
theorem dX8_beginOutput_19 : decode cX8_beginOutput 19 = .ok (.invokevirtual 188, 3) := by decide +kernel
