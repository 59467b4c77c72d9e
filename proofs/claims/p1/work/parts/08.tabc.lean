def tmX9_begin (pc : Nat) : zI := match pc with
  | 0 => (1, 0, 0, 1, 0)
  | 1 => (6, 0, 0, 2, 0)
  | 2 => (47, 10, 0, 5, 0)
  | 5 => (1, 0, 0, 6, 0)
  | 6 => (46, 10, 3, 9, 0)
  | 9 => (6, 0, 0, 10, 1)
  | 10 => (41, 16, 0, 13, 0)
  | 13 => (6, 0, 0, 15, (-5))
  | 15 => (53, 0, 0, 16, 0)
  | 16 => (1, 0, 0, 17, 0)
  | 17 => (6, 0, 0, 18, 1)
  | 18 => (47, 10, 3, 21, 0)
  | 21 => (1, 0, 0, 22, 0)
  | 22 => (6, 0, 0, 23, 0)
  | 23 => (47, 10, 22, 26, 0)
  | 26 => (1, 0, 0, 27, 0)
  | 27 => (6, 0, 0, 28, (-1))
  | 28 => (47, 10, 33, 31, 0)
  | 31 => (6, 0, 0, 32, 1)
  | 32 => (53, 0, 0, 33, 0)
  | _ => (99, 0, 0, 0, 0)
def tX9_begin (pc : Nat) : zI := if pc < 33 then tmX9_begin pc else (99, 0, 0, 0, 0)
theorem tkX9_begin : z_tab RX9 wsX9_begin 1 (some .int) cX9_begin 33 tX9_begin := z_tab_of (tm := tmX9_begin) (by decide +kernel)
theorem sX9_begin_0 (lv : zL) (st : List Value) (w : zW) (nx K : Nat → zL → List Value → zW → Prop) (Rt : Option Value → zW → Prop) : z_st1 (tX9_begin 0) 0 lv st w nx K Rt = (z_la lv 0 (fun x => nx 1 lv (.ref x :: st) w)) := id rfl
theorem sX9_begin_1 (lv : zL) (st : List Value) (w : zW) (nx K : Nat → zL → List Value → zW → Prop) (Rt : Option Value → zW → Prop) : z_st1 (tX9_begin 1) 1 lv st w nx K Rt = (nx 2 lv (.int (0 : Int32) :: st) w) := id rfl
theorem sX9_begin_2 (lv : zL) (st : List Value) (w : zW) (nx K : Nat → zL → List Value → zW → Prop) (Rt : Option Value → zW → Prop) : z_st1 (tX9_begin 2) 2 lv st w nx K Rt = (z_ia st (fun x i r => z_ob w x 10 (fun fs => 0 < fs.length ∧ nx 5 lv r (z_up w x (.inr (10, fs.set 0 (.int i))))))) := id rfl
theorem sX9_begin_5 (lv : zL) (st : List Value) (w : zW) (nx K : Nat → zL → List Value → zW → Prop) (Rt : Option Value → zW → Prop) : z_st1 (tX9_begin 5) 5 lv st w nx K Rt = (z_la lv 0 (fun x => nx 6 lv (.ref x :: st) w)) := id rfl
theorem sX9_begin_6 (lv : zL) (st : List Value) (w : zW) (nx K : Nat → zL → List Value → zW → Prop) (Rt : Option Value → zW → Prop) : z_st1 (tX9_begin 6) 6 lv st w nx K Rt = (z_1a st (fun x r => z_ob w x 10 (fun fs => z_fl fs 3 (fun u => nx 9 lv (u :: r) w)))) := id rfl
theorem sX9_begin_9 (lv : zL) (st : List Value) (w : zW) (nx K : Nat → zL → List Value → zW → Prop) (Rt : Option Value → zW → Prop) : z_st1 (tX9_begin 9) 9 lv st w nx K Rt = (nx 10 lv (.int (1 : Int32) :: st) w) := id rfl
theorem sX9_begin_10 (lv : zL) (st : List Value) (w : zW) (nx K : Nat → zL → List Value → zW → Prop) (Rt : Option Value → zW → Prop) : z_st1 (tX9_begin 10) 10 lv st w nx K Rt = (z_2i st (fun x y r => (¬ x = y → nx 16 lv r w) ∧ (x = y → nx 13 lv r w))) := id rfl
theorem sX9_begin_13 (lv : zL) (st : List Value) (w : zW) (nx K : Nat → zL → List Value → zW → Prop) (Rt : Option Value → zW → Prop) : z_st1 (tX9_begin 13) 13 lv st w nx K Rt = (nx 15 lv (.int (-5 : Int32) :: st) w) := id rfl
theorem sX9_begin_15 (lv : zL) (st : List Value) (w : zW) (nx K : Nat → zL → List Value → zW → Prop) (Rt : Option Value → zW → Prop) : z_st1 (tX9_begin 15) 15 lv st w nx K Rt = (z_e1 st (fun x => Rt (some (.int x)) w)) := id rfl
theorem sX9_begin_16 (lv : zL) (st : List Value) (w : zW) (nx K : Nat → zL → List Value → zW → Prop) (Rt : Option Value → zW → Prop) : z_st1 (tX9_begin 16) 16 lv st w nx K Rt = (z_la lv 0 (fun x => nx 17 lv (.ref x :: st) w)) := id rfl
theorem sX9_begin_17 (lv : zL) (st : List Value) (w : zW) (nx K : Nat → zL → List Value → zW → Prop) (Rt : Option Value → zW → Prop) : z_st1 (tX9_begin 17) 17 lv st w nx K Rt = (nx 18 lv (.int (1 : Int32) :: st) w) := id rfl
theorem sX9_begin_18 (lv : zL) (st : List Value) (w : zW) (nx K : Nat → zL → List Value → zW → Prop) (Rt : Option Value → zW → Prop) : z_st1 (tX9_begin 18) 18 lv st w nx K Rt = (z_ia st (fun x i r => z_ob w x 10 (fun fs => 3 < fs.length ∧ nx 21 lv r (z_up w x (.inr (10, fs.set 3 (.int i))))))) := id rfl
theorem sX9_begin_21 (lv : zL) (st : List Value) (w : zW) (nx K : Nat → zL → List Value → zW → Prop) (Rt : Option Value → zW → Prop) : z_st1 (tX9_begin 21) 21 lv st w nx K Rt = (z_la lv 0 (fun x => nx 22 lv (.ref x :: st) w)) := id rfl
theorem sX9_begin_22 (lv : zL) (st : List Value) (w : zW) (nx K : Nat → zL → List Value → zW → Prop) (Rt : Option Value → zW → Prop) : z_st1 (tX9_begin 22) 22 lv st w nx K Rt = (nx 23 lv (.int (0 : Int32) :: st) w) := id rfl
theorem sX9_begin_23 (lv : zL) (st : List Value) (w : zW) (nx K : Nat → zL → List Value → zW → Prop) (Rt : Option Value → zW → Prop) : z_st1 (tX9_begin 23) 23 lv st w nx K Rt = (z_ia st (fun x i r => z_ob w x 10 (fun fs => 22 < fs.length ∧ nx 26 lv r (z_up w x (.inr (10, fs.set 22 (.int i))))))) := id rfl
theorem sX9_begin_26 (lv : zL) (st : List Value) (w : zW) (nx K : Nat → zL → List Value → zW → Prop) (Rt : Option Value → zW → Prop) : z_st1 (tX9_begin 26) 26 lv st w nx K Rt = (z_la lv 0 (fun x => nx 27 lv (.ref x :: st) w)) := id rfl
theorem sX9_begin_27 (lv : zL) (st : List Value) (w : zW) (nx K : Nat → zL → List Value → zW → Prop) (Rt : Option Value → zW → Prop) : z_st1 (tX9_begin 27) 27 lv st w nx K Rt = (nx 28 lv (.int (-1 : Int32) :: st) w) := id rfl
theorem sX9_begin_28 (lv : zL) (st : List Value) (w : zW) (nx K : Nat → zL → List Value → zW → Prop) (Rt : Option Value → zW → Prop) : z_st1 (tX9_begin 28) 28 lv st w nx K Rt = (z_ia st (fun x i r => z_ob w x 10 (fun fs => 33 < fs.length ∧ nx 31 lv r (z_up w x (.inr (10, fs.set 33 (.int i))))))) := id rfl
theorem sX9_begin_31 (lv : zL) (st : List Value) (w : zW) (nx K : Nat → zL → List Value → zW → Prop) (Rt : Option Value → zW → Prop) : z_st1 (tX9_begin 31) 31 lv st w nx K Rt = (nx 32 lv (.int (1 : Int32) :: st) w) := id rfl
theorem sX9_begin_32 (lv : zL) (st : List Value) (w : zW) (nx K : Nat → zL → List Value → zW → Prop) (Rt : Option Value → zW → Prop) : z_st1 (tX9_begin 32) 32 lv st w nx K Rt = (z_e1 st (fun x => Rt (some (.int x)) w)) := id rfl

def tmX9_release (pc : Nat) : zI := match pc with
  | 0 => (1, 0, 0, 1, 0)
  | 1 => (6, 0, 0, 2, 0)
  | 2 => (47, 10, 0, 5, 0)
  | 5 => (1, 0, 0, 6, 0)
  | 6 => (0, 1, 0, 7, 0)
  | 10 => (35, 16, 0, 13, 0)
  | 13 => (6, 0, 0, 15, (-2))
  | 15 => (53, 0, 0, 16, 0)
  | 16 => (1, 0, 0, 17, 0)
  | 17 => (46, 10, 3, 20, 0)
  | 20 => (6, 0, 0, 21, 1)
  | 21 => (40, 27, 0, 24, 0)
  | 24 => (6, 0, 0, 26, (-5))
  | 26 => (53, 0, 0, 27, 0)
  | 27 => (1, 0, 0, 28, 0)
  | 28 => (46, 10, 22, 31, 0)
  | 31 => (6, 0, 0, 34, 1000)
  | 34 => (41, 39, 0, 37, 0)
  | 37 => (6, 0, 0, 38, (-1))
  | 38 => (53, 0, 0, 39, 0)
  | 39 => (1, 0, 0, 40, 0)
  | 40 => (46, 10, 21, 43, 0)
  | 43 => (1, 0, 0, 44, 0)
  | 44 => (46, 10, 22, 47, 0)
  | 47 => (0, 1, 0, 48, 0)
  | 48 => (49, 0, 0, 49, 0)
  | 49 => (1, 0, 0, 50, 0)
  | 50 => (29, 0, 0, 51, 0)
  | 51 => (46, 10, 22, 54, 0)
  | 54 => (6, 0, 0, 55, 1)
  | 55 => (8, 0, 0, 56, 0)
  | 56 => (47, 10, 22, 59, 0)
  | 59 => (1, 0, 0, 60, 0)
  | 60 => (46, 10, 22, 63, 0)
  | 63 => (53, 0, 0, 64, 0)
  | _ => (99, 0, 0, 0, 0)
def tX9_release (pc : Nat) : zI := if pc < 64 then tmX9_release pc else (99, 0, 0, 0, 0)
theorem tkX9_release : z_tab RX9 wsX9_release 2 (some .int) cX9_release 64 tX9_release := z_tab_of (tm := tmX9_release) (by decide +kernel)
theorem sX9_release_0 (lv : zL) (st : List Value) (w : zW) (nx K : Nat → zL → List Value → zW → Prop) (Rt : Option Value → zW → Prop) : z_st1 (tX9_release 0) 0 lv st w nx K Rt = (z_la lv 0 (fun x => nx 1 lv (.ref x :: st) w)) := id rfl
theorem sX9_release_1 (lv : zL) (st : List Value) (w : zW) (nx K : Nat → zL → List Value → zW → Prop) (Rt : Option Value → zW → Prop) : z_st1 (tX9_release 1) 1 lv st w nx K Rt = (nx 2 lv (.int (0 : Int32) :: st) w) := id rfl
theorem sX9_release_2 (lv : zL) (st : List Value) (w : zW) (nx K : Nat → zL → List Value → zW → Prop) (Rt : Option Value → zW → Prop) : z_st1 (tX9_release 2) 2 lv st w nx K Rt = (z_ia st (fun x i r => z_ob w x 10 (fun fs => 0 < fs.length ∧ nx 5 lv r (z_up w x (.inr (10, fs.set 0 (.int i))))))) := id rfl
theorem sX9_release_5 (lv : zL) (st : List Value) (w : zW) (nx K : Nat → zL → List Value → zW → Prop) (Rt : Option Value → zW → Prop) : z_st1 (tX9_release 5) 5 lv st w nx K Rt = (z_la lv 0 (fun x => nx 6 lv (.ref x :: st) w)) := id rfl
theorem sX9_release_6 (lv : zL) (st : List Value) (w : zW) (nx K : Nat → zL → List Value → zW → Prop) (Rt : Option Value → zW → Prop) : z_st1 (tX9_release 6) 6 lv st w nx K Rt = (z_li lv 1 (fun x => nx 7 lv (.int x :: st) w)) := id rfl
theorem sX9_release_10 (lv : zL) (st : List Value) (w : zW) (nx K : Nat → zL → List Value → zW → Prop) (Rt : Option Value → zW → Prop) : z_st1 (tX9_release 10) 10 lv st w nx K Rt = (z_1i st (fun x r => (¬ x = 0 → nx 16 lv r w) ∧ (x = 0 → nx 13 lv r w))) := id rfl
theorem sX9_release_13 (lv : zL) (st : List Value) (w : zW) (nx K : Nat → zL → List Value → zW → Prop) (Rt : Option Value → zW → Prop) : z_st1 (tX9_release 13) 13 lv st w nx K Rt = (nx 15 lv (.int (-2 : Int32) :: st) w) := id rfl
theorem sX9_release_15 (lv : zL) (st : List Value) (w : zW) (nx K : Nat → zL → List Value → zW → Prop) (Rt : Option Value → zW → Prop) : z_st1 (tX9_release 15) 15 lv st w nx K Rt = (z_e1 st (fun x => Rt (some (.int x)) w)) := id rfl
theorem sX9_release_16 (lv : zL) (st : List Value) (w : zW) (nx K : Nat → zL → List Value → zW → Prop) (Rt : Option Value → zW → Prop) : z_st1 (tX9_release 16) 16 lv st w nx K Rt = (z_la lv 0 (fun x => nx 17 lv (.ref x :: st) w)) := id rfl
theorem sX9_release_17 (lv : zL) (st : List Value) (w : zW) (nx K : Nat → zL → List Value → zW → Prop) (Rt : Option Value → zW → Prop) : z_st1 (tX9_release 17) 17 lv st w nx K Rt = (z_1a st (fun x r => z_ob w x 10 (fun fs => z_fl fs 3 (fun u => nx 20 lv (u :: r) w)))) := id rfl
theorem sX9_release_20 (lv : zL) (st : List Value) (w : zW) (nx K : Nat → zL → List Value → zW → Prop) (Rt : Option Value → zW → Prop) : z_st1 (tX9_release 20) 20 lv st w nx K Rt = (nx 21 lv (.int (1 : Int32) :: st) w) := id rfl
theorem sX9_release_21 (lv : zL) (st : List Value) (w : zW) (nx K : Nat → zL → List Value → zW → Prop) (Rt : Option Value → zW → Prop) : z_st1 (tX9_release 21) 21 lv st w nx K Rt = (z_2i st (fun x y r => (x = y → nx 27 lv r w) ∧ (¬ x = y → nx 24 lv r w))) := id rfl
theorem sX9_release_24 (lv : zL) (st : List Value) (w : zW) (nx K : Nat → zL → List Value → zW → Prop) (Rt : Option Value → zW → Prop) : z_st1 (tX9_release 24) 24 lv st w nx K Rt = (nx 26 lv (.int (-5 : Int32) :: st) w) := id rfl
theorem sX9_release_26 (lv : zL) (st : List Value) (w : zW) (nx K : Nat → zL → List Value → zW → Prop) (Rt : Option Value → zW → Prop) : z_st1 (tX9_release 26) 26 lv st w nx K Rt = (z_e1 st (fun x => Rt (some (.int x)) w)) := id rfl
theorem sX9_release_27 (lv : zL) (st : List Value) (w : zW) (nx K : Nat → zL → List Value → zW → Prop) (Rt : Option Value → zW → Prop) : z_st1 (tX9_release 27) 27 lv st w nx K Rt = (z_la lv 0 (fun x => nx 28 lv (.ref x :: st) w)) := id rfl
theorem sX9_release_28 (lv : zL) (st : List Value) (w : zW) (nx K : Nat → zL → List Value → zW → Prop) (Rt : Option Value → zW → Prop) : z_st1 (tX9_release 28) 28 lv st w nx K Rt = (z_1a st (fun x r => z_ob w x 10 (fun fs => z_fl fs 22 (fun u => nx 31 lv (u :: r) w)))) := id rfl
theorem sX9_release_31 (lv : zL) (st : List Value) (w : zW) (nx K : Nat → zL → List Value → zW → Prop) (Rt : Option Value → zW → Prop) : z_st1 (tX9_release 31) 31 lv st w nx K Rt = (nx 34 lv (.int (1000 : Int32) :: st) w) := id rfl
theorem sX9_release_34 (lv : zL) (st : List Value) (w : zW) (nx K : Nat → zL → List Value → zW → Prop) (Rt : Option Value → zW → Prop) : z_st1 (tX9_release 34) 34 lv st w nx K Rt = (z_2i st (fun x y r => (¬ x = y → nx 39 lv r w) ∧ (x = y → nx 37 lv r w))) := id rfl
theorem sX9_release_37 (lv : zL) (st : List Value) (w : zW) (nx K : Nat → zL → List Value → zW → Prop) (Rt : Option Value → zW → Prop) : z_st1 (tX9_release 37) 37 lv st w nx K Rt = (nx 38 lv (.int (-1 : Int32) :: st) w) := id rfl
theorem sX9_release_38 (lv : zL) (st : List Value) (w : zW) (nx K : Nat → zL → List Value → zW → Prop) (Rt : Option Value → zW → Prop) : z_st1 (tX9_release 38) 38 lv st w nx K Rt = (z_e1 st (fun x => Rt (some (.int x)) w)) := id rfl
theorem sX9_release_39 (lv : zL) (st : List Value) (w : zW) (nx K : Nat → zL → List Value → zW → Prop) (Rt : Option Value → zW → Prop) : z_st1 (tX9_release 39) 39 lv st w nx K Rt = (z_la lv 0 (fun x => nx 40 lv (.ref x :: st) w)) := id rfl
theorem sX9_release_40 (lv : zL) (st : List Value) (w : zW) (nx K : Nat → zL → List Value → zW → Prop) (Rt : Option Value → zW → Prop) : z_st1 (tX9_release 40) 40 lv st w nx K Rt = (z_1a st (fun x r => z_ob w x 10 (fun fs => z_fl fs 21 (fun u => nx 43 lv (u :: r) w)))) := id rfl
theorem sX9_release_43 (lv : zL) (st : List Value) (w : zW) (nx K : Nat → zL → List Value → zW → Prop) (Rt : Option Value → zW → Prop) : z_st1 (tX9_release 43) 43 lv st w nx K Rt = (z_la lv 0 (fun x => nx 44 lv (.ref x :: st) w)) := id rfl
theorem sX9_release_44 (lv : zL) (st : List Value) (w : zW) (nx K : Nat → zL → List Value → zW → Prop) (Rt : Option Value → zW → Prop) : z_st1 (tX9_release 44) 44 lv st w nx K Rt = (z_1a st (fun x r => z_ob w x 10 (fun fs => z_fl fs 22 (fun u => nx 47 lv (u :: r) w)))) := id rfl
theorem sX9_release_47 (lv : zL) (st : List Value) (w : zW) (nx K : Nat → zL → List Value → zW → Prop) (Rt : Option Value → zW → Prop) : z_st1 (tX9_release 47) 47 lv st w nx K Rt = (z_li lv 1 (fun x => nx 48 lv (.int x :: st) w)) := id rfl
theorem sX9_release_48 (lv : zL) (st : List Value) (w : zW) (nx K : Nat → zL → List Value → zW → Prop) (Rt : Option Value → zW → Prop) : z_st1 (tX9_release 48) 48 lv st w nx K Rt = (z_iia st (fun x i u r => z_ar0 w x (fun m g => vp_in i m ∧ nx 49 lv r (z_up w x (.inl (0, m, .inl (upd g i.toNatClampNeg u))))))) := id rfl
theorem sX9_release_49 (lv : zL) (st : List Value) (w : zW) (nx K : Nat → zL → List Value → zW → Prop) (Rt : Option Value → zW → Prop) : z_st1 (tX9_release 49) 49 lv st w nx K Rt = (z_la lv 0 (fun x => nx 50 lv (.ref x :: st) w)) := id rfl
theorem sX9_release_50 (lv : zL) (st : List Value) (w : zW) (nx K : Nat → zL → List Value → zW → Prop) (Rt : Option Value → zW → Prop) : z_st1 (tX9_release 50) 50 lv st w nx K Rt = (z_d1 st (fun x r => nx 51 lv (x :: x :: r) w)) := id rfl
theorem sX9_release_51 (lv : zL) (st : List Value) (w : zW) (nx K : Nat → zL → List Value → zW → Prop) (Rt : Option Value → zW → Prop) : z_st1 (tX9_release 51) 51 lv st w nx K Rt = (z_1a st (fun x r => z_ob w x 10 (fun fs => z_fl fs 22 (fun u => nx 54 lv (u :: r) w)))) := id rfl
theorem sX9_release_54 (lv : zL) (st : List Value) (w : zW) (nx K : Nat → zL → List Value → zW → Prop) (Rt : Option Value → zW → Prop) : z_st1 (tX9_release 54) 54 lv st w nx K Rt = (nx 55 lv (.int (1 : Int32) :: st) w) := id rfl
theorem sX9_release_55 (lv : zL) (st : List Value) (w : zW) (nx K : Nat → zL → List Value → zW → Prop) (Rt : Option Value → zW → Prop) : z_st1 (tX9_release 55) 55 lv st w nx K Rt = (z_2i st (fun x y r => nx 56 lv (.int (x + y) :: r) w)) := id rfl
theorem sX9_release_56 (lv : zL) (st : List Value) (w : zW) (nx K : Nat → zL → List Value → zW → Prop) (Rt : Option Value → zW → Prop) : z_st1 (tX9_release 56) 56 lv st w nx K Rt = (z_ia st (fun x i r => z_ob w x 10 (fun fs => 22 < fs.length ∧ nx 59 lv r (z_up w x (.inr (10, fs.set 22 (.int i))))))) := id rfl
theorem sX9_release_59 (lv : zL) (st : List Value) (w : zW) (nx K : Nat → zL → List Value → zW → Prop) (Rt : Option Value → zW → Prop) : z_st1 (tX9_release 59) 59 lv st w nx K Rt = (z_la lv 0 (fun x => nx 60 lv (.ref x :: st) w)) := id rfl
theorem sX9_release_60 (lv : zL) (st : List Value) (w : zW) (nx K : Nat → zL → List Value → zW → Prop) (Rt : Option Value → zW → Prop) : z_st1 (tX9_release 60) 60 lv st w nx K Rt = (z_1a st (fun x r => z_ob w x 10 (fun fs => z_fl fs 22 (fun u => nx 63 lv (u :: r) w)))) := id rfl
theorem sX9_release_63 (lv : zL) (st : List Value) (w : zW) (nx K : Nat → zL → List Value → zW → Prop) (Rt : Option Value → zW → Prop) : z_st1 (tX9_release 63) 63 lv st w nx K Rt = (z_e1 st (fun x => Rt (some (.int x)) w)) := id rfl
theorem sX9_release_7 (lv : zL) (st : List Value) (w : zW) (nx K : Nat → zL → List Value → zW → Prop) (Rt : Option Value → zW → Prop) : z_st1 (tX9_release 7) 7 lv st w nx K Rt = K 7 lv st w := id rfl
theorem dX9_release_7 : decode cX9_release 7 = .ok (.invokevirtual 101, 3) := by decide +kernel

def tmX9_value (pc : Nat) : zI := match pc with
  | 0 => (57, 0, 0, 1, 0)
  | 1 => (5, 3, 0, 2, 0)
  | 2 => (6, 0, 0, 3, 0)
  | 3 => (3, 5, 0, 5, 0)
  | 5 => (0, 5, 0, 7, 0)
  | 7 => (0, 2, 0, 8, 0)
  | 8 => (43, 37, 0, 11, 0)
  | 11 => (57, 0, 0, 14, 10)
  | 14 => (2, 3, 0, 15, 0)
  | 15 => (18, 0, 0, 16, 0)
  | 16 => (1, 0, 0, 17, 0)
  | 17 => (0, 1, 0, 18, 0)
  | 18 => (0, 5, 0, 20, 0)
  | 20 => (8, 0, 0, 21, 0)
  | 21 => (48, 0, 0, 22, 0)
  | 22 => (6, 0, 0, 24, 15)
  | 24 => (11, 0, 0, 25, 0)
  | 25 => (6, 0, 0, 27, 10)
  | 27 => (16, 0, 0, 28, 0)
  | 28 => (25, 0, 0, 29, 0)
  | 29 => (17, 0, 0, 30, 0)
  | 30 => (5, 3, 0, 31, 0)
  | 31 => (7, 5, 0, 34, 1)
  | 34 => (33, 5, 0, 37, 0)
  | 37 => (1, 0, 0, 38, 0)
  | 38 => (0, 1, 0, 39, 0)
  | 39 => (0, 2, 0, 40, 0)
  | 40 => (8, 0, 0, 41, 0)
  | 41 => (6, 0, 0, 42, 1)
  | 42 => (9, 0, 0, 43, 0)
  | 43 => (48, 0, 0, 44, 0)
  | 44 => (6, 0, 0, 46, 64)
  | 46 => (11, 0, 0, 47, 0)
  | 47 => (34, 56, 0, 50, 0)
  | 50 => (57, 0, 0, 51, 0)
  | 51 => (2, 3, 0, 52, 0)
  | 52 => (21, 0, 0, 53, 0)
  | 53 => (33, 57, 0, 56, 0)
  | 56 => (2, 3, 0, 57, 0)
  | 57 => (54, 0, 0, 58, 0)
  | _ => (99, 0, 0, 0, 0)
def tX9_value (pc : Nat) : zI := if pc < 58 then tmX9_value pc else (99, 0, 0, 0, 0)
theorem tkX9_value : z_tab RX9 wsX9_value 6 (some .long) cX9_value 58 tX9_value := z_tab_of (tm := tmX9_value) (by decide +kernel)
theorem sX9_value_0 (lv : zL) (st : List Value) (w : zW) (nx K : Nat → zL → List Value → zW → Prop) (Rt : Option Value → zW → Prop) : z_st1 (tX9_value 0) 0 lv st w nx K Rt = (nx 1 lv (.long (0 : Int32).toInt64 :: st) w) := id rfl
theorem sX9_value_1 (lv : zL) (st : List Value) (w : zW) (nx K : Nat → zL → List Value → zW → Prop) (Rt : Option Value → zW → Prop) : z_st1 (tX9_value 1) 1 lv st w nx K Rt = (z_1l st (fun x r => z_ok1 lv 3 = true ∧ nx 2 ((lv.set 3 (some (.long x))).set (3 + 1) none) r w)) := id rfl
theorem sX9_value_2 (lv : zL) (st : List Value) (w : zW) (nx K : Nat → zL → List Value → zW → Prop) (Rt : Option Value → zW → Prop) : z_st1 (tX9_value 2) 2 lv st w nx K Rt = (nx 3 lv (.int (0 : Int32) :: st) w) := id rfl
theorem sX9_value_3 (lv : zL) (st : List Value) (w : zW) (nx K : Nat → zL → List Value → zW → Prop) (Rt : Option Value → zW → Prop) : z_st1 (tX9_value 3) 3 lv st w nx K Rt = (z_1i st (fun x r => z_ok1 lv 5 = true ∧ nx 5 (lv.set 5 (some (.int x))) r w)) := id rfl
theorem sX9_value_5 (lv : zL) (st : List Value) (w : zW) (nx K : Nat → zL → List Value → zW → Prop) (Rt : Option Value → zW → Prop) : z_st1 (tX9_value 5) 5 lv st w nx K Rt = (z_li lv 5 (fun x => nx 7 lv (.int x :: st) w)) := id rfl
theorem sX9_value_7 (lv : zL) (st : List Value) (w : zW) (nx K : Nat → zL → List Value → zW → Prop) (Rt : Option Value → zW → Prop) : z_st1 (tX9_value 7) 7 lv st w nx K Rt = (z_li lv 2 (fun x => nx 8 lv (.int x :: st) w)) := id rfl
theorem sX9_value_8 (lv : zL) (st : List Value) (w : zW) (nx K : Nat → zL → List Value → zW → Prop) (Rt : Option Value → zW → Prop) : z_st1 (tX9_value 8) 8 lv st w nx K Rt = (z_2i st (fun x y r => (y ≤ x → nx 37 lv r w) ∧ (¬ y ≤ x → nx 11 lv r w))) := id rfl
theorem sX9_value_11 (lv : zL) (st : List Value) (w : zW) (nx K : Nat → zL → List Value → zW → Prop) (Rt : Option Value → zW → Prop) : z_st1 (tX9_value 11) 11 lv st w nx K Rt = (nx 14 lv (.long (10 : Int32).toInt64 :: st) w) := id rfl
theorem sX9_value_14 (lv : zL) (st : List Value) (w : zW) (nx K : Nat → zL → List Value → zW → Prop) (Rt : Option Value → zW → Prop) : z_st1 (tX9_value 14) 14 lv st w nx K Rt = (z_ll lv 3 (fun x => nx 15 lv (.long x :: st) w)) := id rfl
theorem sX9_value_15 (lv : zL) (st : List Value) (w : zW) (nx K : Nat → zL → List Value → zW → Prop) (Rt : Option Value → zW → Prop) : z_st1 (tX9_value 15) 15 lv st w nx K Rt = (z_2l st (fun x y r => nx 16 lv (.long (x * y) :: r) w)) := id rfl
theorem sX9_value_16 (lv : zL) (st : List Value) (w : zW) (nx K : Nat → zL → List Value → zW → Prop) (Rt : Option Value → zW → Prop) : z_st1 (tX9_value 16) 16 lv st w nx K Rt = (z_la lv 0 (fun x => nx 17 lv (.ref x :: st) w)) := id rfl
theorem sX9_value_17 (lv : zL) (st : List Value) (w : zW) (nx K : Nat → zL → List Value → zW → Prop) (Rt : Option Value → zW → Prop) : z_st1 (tX9_value 17) 17 lv st w nx K Rt = (z_li lv 1 (fun x => nx 18 lv (.int x :: st) w)) := id rfl
theorem sX9_value_18 (lv : zL) (st : List Value) (w : zW) (nx K : Nat → zL → List Value → zW → Prop) (Rt : Option Value → zW → Prop) : z_st1 (tX9_value 18) 18 lv st w nx K Rt = (z_li lv 5 (fun x => nx 20 lv (.int x :: st) w)) := id rfl
theorem sX9_value_20 (lv : zL) (st : List Value) (w : zW) (nx K : Nat → zL → List Value → zW → Prop) (Rt : Option Value → zW → Prop) : z_st1 (tX9_value 20) 20 lv st w nx K Rt = (z_2i st (fun x y r => nx 21 lv (.int (x + y) :: r) w)) := id rfl
theorem sX9_value_21 (lv : zL) (st : List Value) (w : zW) (nx K : Nat → zL → List Value → zW → Prop) (Rt : Option Value → zW → Prop) : z_st1 (tX9_value 21) 21 lv st w nx K Rt = (z_ia st (fun x i r => z_ar0 w x (fun m g => vp_in i m ∧ nx 22 lv (.int (g i.toNatClampNeg) :: r) w))) := id rfl
theorem sX9_value_22 (lv : zL) (st : List Value) (w : zW) (nx K : Nat → zL → List Value → zW → Prop) (Rt : Option Value → zW → Prop) : z_st1 (tX9_value 22) 22 lv st w nx K Rt = (nx 24 lv (.int (15 : Int32) :: st) w) := id rfl
theorem sX9_value_24 (lv : zL) (st : List Value) (w : zW) (nx K : Nat → zL → List Value → zW → Prop) (Rt : Option Value → zW → Prop) : z_st1 (tX9_value 24) 24 lv st w nx K Rt = (z_2i st (fun x y r => nx 25 lv (.int (x &&& y) :: r) w)) := id rfl
theorem sX9_value_25 (lv : zL) (st : List Value) (w : zW) (nx K : Nat → zL → List Value → zW → Prop) (Rt : Option Value → zW → Prop) : z_st1 (tX9_value 25) 25 lv st w nx K Rt = (nx 27 lv (.int (10 : Int32) :: st) w) := id rfl
theorem sX9_value_27 (lv : zL) (st : List Value) (w : zW) (nx K : Nat → zL → List Value → zW → Prop) (Rt : Option Value → zW → Prop) : z_st1 (tX9_value 27) 27 lv st w nx K Rt = (z_2i st (fun x y r => ¬ y = 0 ∧ nx 28 lv (.int (x - x / y * y) :: r) w)) := id rfl
theorem sX9_value_28 (lv : zL) (st : List Value) (w : zW) (nx K : Nat → zL → List Value → zW → Prop) (Rt : Option Value → zW → Prop) : z_st1 (tX9_value 28) 28 lv st w nx K Rt = (z_1i st (fun x r => nx 29 lv (.long x.toInt64 :: r) w)) := id rfl
theorem sX9_value_29 (lv : zL) (st : List Value) (w : zW) (nx K : Nat → zL → List Value → zW → Prop) (Rt : Option Value → zW → Prop) : z_st1 (tX9_value 29) 29 lv st w nx K Rt = (z_2l st (fun x y r => nx 30 lv (.long (x + y) :: r) w)) := id rfl
theorem sX9_value_30 (lv : zL) (st : List Value) (w : zW) (nx K : Nat → zL → List Value → zW → Prop) (Rt : Option Value → zW → Prop) : z_st1 (tX9_value 30) 30 lv st w nx K Rt = (z_1l st (fun x r => z_ok1 lv 3 = true ∧ nx 31 ((lv.set 3 (some (.long x))).set (3 + 1) none) r w)) := id rfl
theorem sX9_value_31 (lv : zL) (st : List Value) (w : zW) (nx K : Nat → zL → List Value → zW → Prop) (Rt : Option Value → zW → Prop) : z_st1 (tX9_value 31) 31 lv st w nx K Rt = (z_li lv 5 (fun x => z_ok1 lv 5 = true ∧ nx 34 (lv.set 5 (some (.int (x + (1 : Int32))))) st w)) := id rfl
theorem sX9_value_34 (lv : zL) (st : List Value) (w : zW) (nx K : Nat → zL → List Value → zW → Prop) (Rt : Option Value → zW → Prop) : z_st1 (tX9_value 34) 34 lv st w nx K Rt = (nx 5 lv st w) := id rfl
theorem sX9_value_37 (lv : zL) (st : List Value) (w : zW) (nx K : Nat → zL → List Value → zW → Prop) (Rt : Option Value → zW → Prop) : z_st1 (tX9_value 37) 37 lv st w nx K Rt = (z_la lv 0 (fun x => nx 38 lv (.ref x :: st) w)) := id rfl
theorem sX9_value_38 (lv : zL) (st : List Value) (w : zW) (nx K : Nat → zL → List Value → zW → Prop) (Rt : Option Value → zW → Prop) : z_st1 (tX9_value 38) 38 lv st w nx K Rt = (z_li lv 1 (fun x => nx 39 lv (.int x :: st) w)) := id rfl
theorem sX9_value_39 (lv : zL) (st : List Value) (w : zW) (nx K : Nat → zL → List Value → zW → Prop) (Rt : Option Value → zW → Prop) : z_st1 (tX9_value 39) 39 lv st w nx K Rt = (z_li lv 2 (fun x => nx 40 lv (.int x :: st) w)) := id rfl
theorem sX9_value_40 (lv : zL) (st : List Value) (w : zW) (nx K : Nat → zL → List Value → zW → Prop) (Rt : Option Value → zW → Prop) : z_st1 (tX9_value 40) 40 lv st w nx K Rt = (z_2i st (fun x y r => nx 41 lv (.int (x + y) :: r) w)) := id rfl
theorem sX9_value_41 (lv : zL) (st : List Value) (w : zW) (nx K : Nat → zL → List Value → zW → Prop) (Rt : Option Value → zW → Prop) : z_st1 (tX9_value 41) 41 lv st w nx K Rt = (nx 42 lv (.int (1 : Int32) :: st) w) := id rfl
theorem sX9_value_42 (lv : zL) (st : List Value) (w : zW) (nx K : Nat → zL → List Value → zW → Prop) (Rt : Option Value → zW → Prop) : z_st1 (tX9_value 42) 42 lv st w nx K Rt = (z_2i st (fun x y r => nx 43 lv (.int (x - y) :: r) w)) := id rfl
theorem sX9_value_43 (lv : zL) (st : List Value) (w : zW) (nx K : Nat → zL → List Value → zW → Prop) (Rt : Option Value → zW → Prop) : z_st1 (tX9_value 43) 43 lv st w nx K Rt = (z_ia st (fun x i r => z_ar0 w x (fun m g => vp_in i m ∧ nx 44 lv (.int (g i.toNatClampNeg) :: r) w))) := id rfl
theorem sX9_value_44 (lv : zL) (st : List Value) (w : zW) (nx K : Nat → zL → List Value → zW → Prop) (Rt : Option Value → zW → Prop) : z_st1 (tX9_value 44) 44 lv st w nx K Rt = (nx 46 lv (.int (64 : Int32) :: st) w) := id rfl
theorem sX9_value_46 (lv : zL) (st : List Value) (w : zW) (nx K : Nat → zL → List Value → zW → Prop) (Rt : Option Value → zW → Prop) : z_st1 (tX9_value 46) 46 lv st w nx K Rt = (z_2i st (fun x y r => nx 47 lv (.int (x &&& y) :: r) w)) := id rfl
theorem sX9_value_47 (lv : zL) (st : List Value) (w : zW) (nx K : Nat → zL → List Value → zW → Prop) (Rt : Option Value → zW → Prop) : z_st1 (tX9_value 47) 47 lv st w nx K Rt = (z_1i st (fun x r => (x = 0 → nx 56 lv r w) ∧ (¬ x = 0 → nx 50 lv r w))) := id rfl
theorem sX9_value_50 (lv : zL) (st : List Value) (w : zW) (nx K : Nat → zL → List Value → zW → Prop) (Rt : Option Value → zW → Prop) : z_st1 (tX9_value 50) 50 lv st w nx K Rt = (nx 51 lv (.long (0 : Int32).toInt64 :: st) w) := id rfl
theorem sX9_value_51 (lv : zL) (st : List Value) (w : zW) (nx K : Nat → zL → List Value → zW → Prop) (Rt : Option Value → zW → Prop) : z_st1 (tX9_value 51) 51 lv st w nx K Rt = (z_ll lv 3 (fun x => nx 52 lv (.long x :: st) w)) := id rfl
theorem sX9_value_52 (lv : zL) (st : List Value) (w : zW) (nx K : Nat → zL → List Value → zW → Prop) (Rt : Option Value → zW → Prop) : z_st1 (tX9_value 52) 52 lv st w nx K Rt = (z_2l st (fun x y r => nx 53 lv (.long (x - y) :: r) w)) := id rfl
theorem sX9_value_53 (lv : zL) (st : List Value) (w : zW) (nx K : Nat → zL → List Value → zW → Prop) (Rt : Option Value → zW → Prop) : z_st1 (tX9_value 53) 53 lv st w nx K Rt = (nx 57 lv st w) := id rfl
theorem sX9_value_56 (lv : zL) (st : List Value) (w : zW) (nx K : Nat → zL → List Value → zW → Prop) (Rt : Option Value → zW → Prop) : z_st1 (tX9_value 56) 56 lv st w nx K Rt = (z_ll lv 3 (fun x => nx 57 lv (.long x :: st) w)) := id rfl
theorem sX9_value_57 (lv : zL) (st : List Value) (w : zW) (nx K : Nat → zL → List Value → zW → Prop) (Rt : Option Value → zW → Prop) : z_st1 (tX9_value 57) 57 lv st w nx K Rt = (z_e2 st (fun x => Rt (some (.long x)) w)) := id rfl

def tmX9_compare (pc : Nat) : zI := match pc with
  | 0 => (1, 0, 0, 1, 0)
  | 1 => (1, 0, 0, 2, 0)
  | 2 => (0, 1, 0, 3, 0)
  | 6 => (34, 21, 0, 9, 0)
  | 9 => (1, 0, 0, 10, 0)
  | 10 => (0, 2, 0, 11, 0)
  | 14 => (34, 21, 0, 17, 0)
  | 17 => (6, 0, 0, 18, 0)
  | 18 => (33, 22, 0, 21, 0)
  | 21 => (6, 0, 0, 22, 1)
  | 22 => (47, 10, 0, 25, 0)
  | 25 => (1, 0, 0, 26, 0)
  | 26 => (46, 10, 0, 29, 0)
  | 29 => (39, 36, 0, 32, 0)
  | 32 => (6, 0, 0, 33, 0)
  | 33 => (33, 60, 0, 36, 0)
  | 36 => (1, 0, 0, 37, 0)
  | 37 => (1, 0, 0, 38, 0)
  | 38 => (46, 10, 9, 41, 0)
  | 41 => (6, 0, 0, 43, 32)
  | 43 => (0, 1, 0, 44, 0)
  | 44 => (6, 0, 0, 45, 1)
  | 45 => (9, 0, 0, 46, 0)
  | 46 => (10, 0, 0, 47, 0)
  | 47 => (1, 0, 0, 48, 0)
  | 48 => (46, 10, 9, 51, 0)
  | 51 => (6, 0, 0, 53, 32)
  | 53 => (0, 2, 0, 54, 0)
  | 54 => (6, 0, 0, 55, 1)
  | 55 => (9, 0, 0, 56, 0)
  | 56 => (10, 0, 0, 57, 0)
  | 60 => (53, 0, 0, 61, 0)
  | _ => (99, 0, 0, 0, 0)
def tX9_compare (pc : Nat) : zI := if pc < 61 then tmX9_compare pc else (99, 0, 0, 0, 0)
theorem tkX9_compare : z_tab RX9 wsX9_compare 3 (some .int) cX9_compare 61 tX9_compare := z_tab_of (tm := tmX9_compare) (by decide +kernel)
theorem sX9_compare_0 (lv : zL) (st : List Value) (w : zW) (nx K : Nat → zL → List Value → zW → Prop) (Rt : Option Value → zW → Prop) : z_st1 (tX9_compare 0) 0 lv st w nx K Rt = (z_la lv 0 (fun x => nx 1 lv (.ref x :: st) w)) := id rfl
theorem sX9_compare_1 (lv : zL) (st : List Value) (w : zW) (nx K : Nat → zL → List Value → zW → Prop) (Rt : Option Value → zW → Prop) : z_st1 (tX9_compare 1) 1 lv st w nx K Rt = (z_la lv 0 (fun x => nx 2 lv (.ref x :: st) w)) := id rfl
theorem sX9_compare_2 (lv : zL) (st : List Value) (w : zW) (nx K : Nat → zL → List Value → zW → Prop) (Rt : Option Value → zW → Prop) : z_st1 (tX9_compare 2) 2 lv st w nx K Rt = (z_li lv 1 (fun x => nx 3 lv (.int x :: st) w)) := id rfl
theorem sX9_compare_6 (lv : zL) (st : List Value) (w : zW) (nx K : Nat → zL → List Value → zW → Prop) (Rt : Option Value → zW → Prop) : z_st1 (tX9_compare 6) 6 lv st w nx K Rt = (z_1i st (fun x r => (x = 0 → nx 21 lv r w) ∧ (¬ x = 0 → nx 9 lv r w))) := id rfl
theorem sX9_compare_9 (lv : zL) (st : List Value) (w : zW) (nx K : Nat → zL → List Value → zW → Prop) (Rt : Option Value → zW → Prop) : z_st1 (tX9_compare 9) 9 lv st w nx K Rt = (z_la lv 0 (fun x => nx 10 lv (.ref x :: st) w)) := id rfl
theorem sX9_compare_10 (lv : zL) (st : List Value) (w : zW) (nx K : Nat → zL → List Value → zW → Prop) (Rt : Option Value → zW → Prop) : z_st1 (tX9_compare 10) 10 lv st w nx K Rt = (z_li lv 2 (fun x => nx 11 lv (.int x :: st) w)) := id rfl
theorem sX9_compare_14 (lv : zL) (st : List Value) (w : zW) (nx K : Nat → zL → List Value → zW → Prop) (Rt : Option Value → zW → Prop) : z_st1 (tX9_compare 14) 14 lv st w nx K Rt = (z_1i st (fun x r => (x = 0 → nx 21 lv r w) ∧ (¬ x = 0 → nx 17 lv r w))) := id rfl
theorem sX9_compare_17 (lv : zL) (st : List Value) (w : zW) (nx K : Nat → zL → List Value → zW → Prop) (Rt : Option Value → zW → Prop) : z_st1 (tX9_compare 17) 17 lv st w nx K Rt = (nx 18 lv (.int (0 : Int32) :: st) w) := id rfl
theorem sX9_compare_18 (lv : zL) (st : List Value) (w : zW) (nx K : Nat → zL → List Value → zW → Prop) (Rt : Option Value → zW → Prop) : z_st1 (tX9_compare 18) 18 lv st w nx K Rt = (nx 22 lv st w) := id rfl
theorem sX9_compare_21 (lv : zL) (st : List Value) (w : zW) (nx K : Nat → zL → List Value → zW → Prop) (Rt : Option Value → zW → Prop) : z_st1 (tX9_compare 21) 21 lv st w nx K Rt = (nx 22 lv (.int (1 : Int32) :: st) w) := id rfl
theorem sX9_compare_22 (lv : zL) (st : List Value) (w : zW) (nx K : Nat → zL → List Value → zW → Prop) (Rt : Option Value → zW → Prop) : z_st1 (tX9_compare 22) 22 lv st w nx K Rt = (z_ia st (fun x i r => z_ob w x 10 (fun fs => 0 < fs.length ∧ nx 25 lv r (z_up w x (.inr (10, fs.set 0 (.int i))))))) := id rfl
theorem sX9_compare_25 (lv : zL) (st : List Value) (w : zW) (nx K : Nat → zL → List Value → zW → Prop) (Rt : Option Value → zW → Prop) : z_st1 (tX9_compare 25) 25 lv st w nx K Rt = (z_la lv 0 (fun x => nx 26 lv (.ref x :: st) w)) := id rfl
theorem sX9_compare_26 (lv : zL) (st : List Value) (w : zW) (nx K : Nat → zL → List Value → zW → Prop) (Rt : Option Value → zW → Prop) : z_st1 (tX9_compare 26) 26 lv st w nx K Rt = (z_1a st (fun x r => z_ob w x 10 (fun fs => z_fl fs 0 (fun u => nx 29 lv (u :: r) w)))) := id rfl
theorem sX9_compare_29 (lv : zL) (st : List Value) (w : zW) (nx K : Nat → zL → List Value → zW → Prop) (Rt : Option Value → zW → Prop) : z_st1 (tX9_compare 29) 29 lv st w nx K Rt = (z_1i st (fun x r => (x ≤ 0 → nx 36 lv r w) ∧ (¬ x ≤ 0 → nx 32 lv r w))) := id rfl
theorem sX9_compare_32 (lv : zL) (st : List Value) (w : zW) (nx K : Nat → zL → List Value → zW → Prop) (Rt : Option Value → zW → Prop) : z_st1 (tX9_compare 32) 32 lv st w nx K Rt = (nx 33 lv (.int (0 : Int32) :: st) w) := id rfl
theorem sX9_compare_33 (lv : zL) (st : List Value) (w : zW) (nx K : Nat → zL → List Value → zW → Prop) (Rt : Option Value → zW → Prop) : z_st1 (tX9_compare 33) 33 lv st w nx K Rt = (nx 60 lv st w) := id rfl
theorem sX9_compare_36 (lv : zL) (st : List Value) (w : zW) (nx K : Nat → zL → List Value → zW → Prop) (Rt : Option Value → zW → Prop) : z_st1 (tX9_compare 36) 36 lv st w nx K Rt = (z_la lv 0 (fun x => nx 37 lv (.ref x :: st) w)) := id rfl
theorem sX9_compare_37 (lv : zL) (st : List Value) (w : zW) (nx K : Nat → zL → List Value → zW → Prop) (Rt : Option Value → zW → Prop) : z_st1 (tX9_compare 37) 37 lv st w nx K Rt = (z_la lv 0 (fun x => nx 38 lv (.ref x :: st) w)) := id rfl
theorem sX9_compare_38 (lv : zL) (st : List Value) (w : zW) (nx K : Nat → zL → List Value → zW → Prop) (Rt : Option Value → zW → Prop) : z_st1 (tX9_compare 38) 38 lv st w nx K Rt = (z_1a st (fun x r => z_ob w x 10 (fun fs => z_fl fs 9 (fun u => nx 41 lv (u :: r) w)))) := id rfl
theorem sX9_compare_41 (lv : zL) (st : List Value) (w : zW) (nx K : Nat → zL → List Value → zW → Prop) (Rt : Option Value → zW → Prop) : z_st1 (tX9_compare 41) 41 lv st w nx K Rt = (nx 43 lv (.int (32 : Int32) :: st) w) := id rfl
theorem sX9_compare_43 (lv : zL) (st : List Value) (w : zW) (nx K : Nat → zL → List Value → zW → Prop) (Rt : Option Value → zW → Prop) : z_st1 (tX9_compare 43) 43 lv st w nx K Rt = (z_li lv 1 (fun x => nx 44 lv (.int x :: st) w)) := id rfl
theorem sX9_compare_44 (lv : zL) (st : List Value) (w : zW) (nx K : Nat → zL → List Value → zW → Prop) (Rt : Option Value → zW → Prop) : z_st1 (tX9_compare 44) 44 lv st w nx K Rt = (nx 45 lv (.int (1 : Int32) :: st) w) := id rfl
theorem sX9_compare_45 (lv : zL) (st : List Value) (w : zW) (nx K : Nat → zL → List Value → zW → Prop) (Rt : Option Value → zW → Prop) : z_st1 (tX9_compare 45) 45 lv st w nx K Rt = (z_2i st (fun x y r => nx 46 lv (.int (x - y) :: r) w)) := id rfl
theorem sX9_compare_46 (lv : zL) (st : List Value) (w : zW) (nx K : Nat → zL → List Value → zW → Prop) (Rt : Option Value → zW → Prop) : z_st1 (tX9_compare 46) 46 lv st w nx K Rt = (z_2i st (fun x y r => nx 47 lv (.int (x * y) :: r) w)) := id rfl
theorem sX9_compare_47 (lv : zL) (st : List Value) (w : zW) (nx K : Nat → zL → List Value → zW → Prop) (Rt : Option Value → zW → Prop) : z_st1 (tX9_compare 47) 47 lv st w nx K Rt = (z_la lv 0 (fun x => nx 48 lv (.ref x :: st) w)) := id rfl
theorem sX9_compare_48 (lv : zL) (st : List Value) (w : zW) (nx K : Nat → zL → List Value → zW → Prop) (Rt : Option Value → zW → Prop) : z_st1 (tX9_compare 48) 48 lv st w nx K Rt = (z_1a st (fun x r => z_ob w x 10 (fun fs => z_fl fs 9 (fun u => nx 51 lv (u :: r) w)))) := id rfl
theorem sX9_compare_51 (lv : zL) (st : List Value) (w : zW) (nx K : Nat → zL → List Value → zW → Prop) (Rt : Option Value → zW → Prop) : z_st1 (tX9_compare 51) 51 lv st w nx K Rt = (nx 53 lv (.int (32 : Int32) :: st) w) := id rfl
theorem sX9_compare_53 (lv : zL) (st : List Value) (w : zW) (nx K : Nat → zL → List Value → zW → Prop) (Rt : Option Value → zW → Prop) : z_st1 (tX9_compare 53) 53 lv st w nx K Rt = (z_li lv 2 (fun x => nx 54 lv (.int x :: st) w)) := id rfl
theorem sX9_compare_54 (lv : zL) (st : List Value) (w : zW) (nx K : Nat → zL → List Value → zW → Prop) (Rt : Option Value → zW → Prop) : z_st1 (tX9_compare 54) 54 lv st w nx K Rt = (nx 55 lv (.int (1 : Int32) :: st) w) := id rfl
theorem sX9_compare_55 (lv : zL) (st : List Value) (w : zW) (nx K : Nat → zL → List Value → zW → Prop) (Rt : Option Value → zW → Prop) : z_st1 (tX9_compare 55) 55 lv st w nx K Rt = (z_2i st (fun x y r => nx 56 lv (.int (x - y) :: r) w)) := id rfl
theorem sX9_compare_56 (lv : zL) (st : List Value) (w : zW) (nx K : Nat → zL → List Value → zW → Prop) (Rt : Option Value → zW → Prop) : z_st1 (tX9_compare 56) 56 lv st w nx K Rt = (z_2i st (fun x y r => nx 57 lv (.int (x * y) :: r) w)) := id rfl
theorem sX9_compare_60 (lv : zL) (st : List Value) (w : zW) (nx K : Nat → zL → List Value → zW → Prop) (Rt : Option Value → zW → Prop) : z_st1 (tX9_compare 60) 60 lv st w nx K Rt = (z_e1 st (fun x => Rt (some (.int x)) w)) := id rfl
theorem sX9_compare_3 (lv : zL) (st : List Value) (w : zW) (nx K : Nat → zL → List Value → zW → Prop) (Rt : Option Value → zW → Prop) : z_st1 (tX9_compare 3) 3 lv st w nx K Rt = K 3 lv st w := id rfl
theorem sX9_compare_11 (lv : zL) (st : List Value) (w : zW) (nx K : Nat → zL → List Value → zW → Prop) (Rt : Option Value → zW → Prop) : z_st1 (tX9_compare 11) 11 lv st w nx K Rt = K 11 lv st w := id rfl
theorem sX9_compare_57 (lv : zL) (st : List Value) (w : zW) (nx K : Nat → zL → List Value → zW → Prop) (Rt : Option Value → zW → Prop) : z_st1 (tX9_compare 57) 57 lv st w nx K Rt = K 57 lv st w := id rfl
theorem dX9_compare_3 : decode cX9_compare 3 = .ok (.invokevirtual 101, 3) := by decide +kernel
theorem dX9_compare_11 : decode cX9_compare 11 = .ok (.invokevirtual 101, 3) := by decide +kernel
theorem dX9_compare_57 : decode cX9_compare 57 = .ok (.invokevirtual 123, 3) := by decide +kernel

def tmX9_arrange (pc : Nat) : zI := match pc with
  | 0 => (6, 0, 0, 1, 0)
  | 1 => (3, 2, 0, 2, 0)
  | 2 => (0, 2, 0, 3, 0)
  | 3 => (1, 0, 0, 4, 0)
  | 4 => (46, 10, 30, 7, 0)
  | 7 => (43, 146, 0, 10, 0)
  | 10 => (0, 2, 0, 11, 0)
  | 11 => (3, 3, 0, 12, 0)
  | 12 => (0, 3, 0, 13, 0)
  | 13 => (39, 20, 0, 16, 0)
  | 16 => (6, 0, 0, 17, 1)
  | 17 => (33, 21, 0, 20, 0)
  | 20 => (6, 0, 0, 21, 0)
  | 21 => (3, 4, 0, 23, 0)
  | 23 => (0, 4, 0, 25, 0)
  | 25 => (34, 133, 0, 28, 0)
  | 28 => (1, 0, 0, 29, 0)
  | 29 => (46, 10, 28, 32, 0)
  | 32 => (0, 3, 0, 33, 0)
  | 33 => (6, 0, 0, 34, 1)
  | 34 => (9, 0, 0, 35, 0)
  | 35 => (48, 0, 0, 36, 0)
  | 36 => (3, 5, 0, 38, 0)
  | 38 => (1, 0, 0, 39, 0)
  | 39 => (1, 0, 0, 40, 0)
  | 40 => (46, 10, 25, 43, 0)
  | 43 => (6, 0, 0, 45, 32)
  | 45 => (0, 5, 0, 47, 0)
  | 47 => (10, 0, 0, 48, 0)
  | 48 => (1, 0, 0, 49, 0)
  | 49 => (46, 10, 25, 52, 0)
  | 52 => (6, 0, 0, 54, 32)
  | 54 => (0, 2, 0, 55, 0)
  | 55 => (10, 0, 0, 56, 0)
  | 59 => (3, 6, 0, 61, 0)
  | 61 => (0, 6, 0, 63, 0)
  | 63 => (38, 91, 0, 66, 0)
  | 66 => (0, 6, 0, 68, 0)
  | 68 => (35, 95, 0, 71, 0)
  | 71 => (0, 1, 0, 72, 0)
  | 72 => (34, 95, 0, 75, 0)
  | 75 => (1, 0, 0, 76, 0)
  | 76 => (46, 10, 27, 79, 0)
  | 79 => (0, 5, 0, 81, 0)
  | 81 => (48, 0, 0, 82, 0)
  | 82 => (1, 0, 0, 83, 0)
  | 83 => (46, 10, 27, 86, 0)
  | 86 => (0, 2, 0, 87, 0)
  | 87 => (48, 0, 0, 88, 0)
  | 88 => (45, 95, 0, 91, 0)
  | 91 => (6, 0, 0, 92, 1)
  | 92 => (33, 96, 0, 95, 0)
  | 95 => (6, 0, 0, 96, 0)
  | 96 => (3, 7, 0, 98, 0)
  | 98 => (0, 7, 0, 100, 0)
  | 100 => (34, 114, 0, 103, 0)
  | 103 => (1, 0, 0, 104, 0)
  | 104 => (46, 10, 28, 107, 0)
  | 107 => (0, 3, 0, 108, 0)
  | 108 => (0, 5, 0, 110, 0)
  | 110 => (49, 0, 0, 111, 0)
  | 111 => (7, 3, 0, 114, (-1))
  | 114 => (0, 7, 0, 116, 0)
  | 116 => (34, 127, 0, 119, 0)
  | 119 => (0, 3, 0, 120, 0)
  | 120 => (39, 127, 0, 123, 0)
  | 123 => (6, 0, 0, 124, 1)
  | 124 => (33, 128, 0, 127, 0)
  | 127 => (6, 0, 0, 128, 0)
  | 128 => (3, 4, 0, 130, 0)
  | 130 => (33, 23, 0, 133, 0)
  | 133 => (1, 0, 0, 134, 0)
  | 134 => (46, 10, 28, 137, 0)
  | 137 => (0, 3, 0, 138, 0)
  | 138 => (0, 2, 0, 139, 0)
  | 139 => (49, 0, 0, 140, 0)
  | 140 => (7, 2, 0, 143, 1)
  | 143 => (33, 2, 0, 146, 0)
  | 146 => (55, 0, 0, 147, 0)
  | _ => (99, 0, 0, 0, 0)
def tX9_arrange (pc : Nat) : zI := if pc < 147 then tmX9_arrange pc else (99, 0, 0, 0, 0)
theorem tkX9_arrange : z_tab RX9 wsX9_arrange 8 none cX9_arrange 147 tX9_arrange := z_tab_of (tm := tmX9_arrange) (by decide +kernel)
theorem sX9_arrange_0 (lv : zL) (st : List Value) (w : zW) (nx K : Nat → zL → List Value → zW → Prop) (Rt : Option Value → zW → Prop) : z_st1 (tX9_arrange 0) 0 lv st w nx K Rt = (nx 1 lv (.int (0 : Int32) :: st) w) := id rfl
theorem sX9_arrange_1 (lv : zL) (st : List Value) (w : zW) (nx K : Nat → zL → List Value → zW → Prop) (Rt : Option Value → zW → Prop) : z_st1 (tX9_arrange 1) 1 lv st w nx K Rt = (z_1i st (fun x r => z_ok1 lv 2 = true ∧ nx 2 (lv.set 2 (some (.int x))) r w)) := id rfl
theorem sX9_arrange_2 (lv : zL) (st : List Value) (w : zW) (nx K : Nat → zL → List Value → zW → Prop) (Rt : Option Value → zW → Prop) : z_st1 (tX9_arrange 2) 2 lv st w nx K Rt = (z_li lv 2 (fun x => nx 3 lv (.int x :: st) w)) := id rfl
theorem sX9_arrange_3 (lv : zL) (st : List Value) (w : zW) (nx K : Nat → zL → List Value → zW → Prop) (Rt : Option Value → zW → Prop) : z_st1 (tX9_arrange 3) 3 lv st w nx K Rt = (z_la lv 0 (fun x => nx 4 lv (.ref x :: st) w)) := id rfl
theorem sX9_arrange_4 (lv : zL) (st : List Value) (w : zW) (nx K : Nat → zL → List Value → zW → Prop) (Rt : Option Value → zW → Prop) : z_st1 (tX9_arrange 4) 4 lv st w nx K Rt = (z_1a st (fun x r => z_ob w x 10 (fun fs => z_fl fs 30 (fun u => nx 7 lv (u :: r) w)))) := id rfl
theorem sX9_arrange_7 (lv : zL) (st : List Value) (w : zW) (nx K : Nat → zL → List Value → zW → Prop) (Rt : Option Value → zW → Prop) : z_st1 (tX9_arrange 7) 7 lv st w nx K Rt = (z_2i st (fun x y r => (y ≤ x → nx 146 lv r w) ∧ (¬ y ≤ x → nx 10 lv r w))) := id rfl
theorem sX9_arrange_10 (lv : zL) (st : List Value) (w : zW) (nx K : Nat → zL → List Value → zW → Prop) (Rt : Option Value → zW → Prop) : z_st1 (tX9_arrange 10) 10 lv st w nx K Rt = (z_li lv 2 (fun x => nx 11 lv (.int x :: st) w)) := id rfl
theorem sX9_arrange_11 (lv : zL) (st : List Value) (w : zW) (nx K : Nat → zL → List Value → zW → Prop) (Rt : Option Value → zW → Prop) : z_st1 (tX9_arrange 11) 11 lv st w nx K Rt = (z_1i st (fun x r => z_ok1 lv 3 = true ∧ nx 12 (lv.set 3 (some (.int x))) r w)) := id rfl
theorem sX9_arrange_12 (lv : zL) (st : List Value) (w : zW) (nx K : Nat → zL → List Value → zW → Prop) (Rt : Option Value → zW → Prop) : z_st1 (tX9_arrange 12) 12 lv st w nx K Rt = (z_li lv 3 (fun x => nx 13 lv (.int x :: st) w)) := id rfl
theorem sX9_arrange_13 (lv : zL) (st : List Value) (w : zW) (nx K : Nat → zL → List Value → zW → Prop) (Rt : Option Value → zW → Prop) : z_st1 (tX9_arrange 13) 13 lv st w nx K Rt = (z_1i st (fun x r => (x ≤ 0 → nx 20 lv r w) ∧ (¬ x ≤ 0 → nx 16 lv r w))) := id rfl
theorem sX9_arrange_16 (lv : zL) (st : List Value) (w : zW) (nx K : Nat → zL → List Value → zW → Prop) (Rt : Option Value → zW → Prop) : z_st1 (tX9_arrange 16) 16 lv st w nx K Rt = (nx 17 lv (.int (1 : Int32) :: st) w) := id rfl
theorem sX9_arrange_17 (lv : zL) (st : List Value) (w : zW) (nx K : Nat → zL → List Value → zW → Prop) (Rt : Option Value → zW → Prop) : z_st1 (tX9_arrange 17) 17 lv st w nx K Rt = (nx 21 lv st w) := id rfl
theorem sX9_arrange_20 (lv : zL) (st : List Value) (w : zW) (nx K : Nat → zL → List Value → zW → Prop) (Rt : Option Value → zW → Prop) : z_st1 (tX9_arrange 20) 20 lv st w nx K Rt = (nx 21 lv (.int (0 : Int32) :: st) w) := id rfl
theorem sX9_arrange_21 (lv : zL) (st : List Value) (w : zW) (nx K : Nat → zL → List Value → zW → Prop) (Rt : Option Value → zW → Prop) : z_st1 (tX9_arrange 21) 21 lv st w nx K Rt = (z_1i st (fun x r => z_ok1 lv 4 = true ∧ nx 23 (lv.set 4 (some (.int x))) r w)) := id rfl
theorem sX9_arrange_23 (lv : zL) (st : List Value) (w : zW) (nx K : Nat → zL → List Value → zW → Prop) (Rt : Option Value → zW → Prop) : z_st1 (tX9_arrange 23) 23 lv st w nx K Rt = (z_li lv 4 (fun x => nx 25 lv (.int x :: st) w)) := id rfl
theorem sX9_arrange_25 (lv : zL) (st : List Value) (w : zW) (nx K : Nat → zL → List Value → zW → Prop) (Rt : Option Value → zW → Prop) : z_st1 (tX9_arrange 25) 25 lv st w nx K Rt = (z_1i st (fun x r => (x = 0 → nx 133 lv r w) ∧ (¬ x = 0 → nx 28 lv r w))) := id rfl
theorem sX9_arrange_28 (lv : zL) (st : List Value) (w : zW) (nx K : Nat → zL → List Value → zW → Prop) (Rt : Option Value → zW → Prop) : z_st1 (tX9_arrange 28) 28 lv st w nx K Rt = (z_la lv 0 (fun x => nx 29 lv (.ref x :: st) w)) := id rfl
theorem sX9_arrange_29 (lv : zL) (st : List Value) (w : zW) (nx K : Nat → zL → List Value → zW → Prop) (Rt : Option Value → zW → Prop) : z_st1 (tX9_arrange 29) 29 lv st w nx K Rt = (z_1a st (fun x r => z_ob w x 10 (fun fs => z_fl fs 28 (fun u => nx 32 lv (u :: r) w)))) := id rfl
theorem sX9_arrange_32 (lv : zL) (st : List Value) (w : zW) (nx K : Nat → zL → List Value → zW → Prop) (Rt : Option Value → zW → Prop) : z_st1 (tX9_arrange 32) 32 lv st w nx K Rt = (z_li lv 3 (fun x => nx 33 lv (.int x :: st) w)) := id rfl
theorem sX9_arrange_33 (lv : zL) (st : List Value) (w : zW) (nx K : Nat → zL → List Value → zW → Prop) (Rt : Option Value → zW → Prop) : z_st1 (tX9_arrange 33) 33 lv st w nx K Rt = (nx 34 lv (.int (1 : Int32) :: st) w) := id rfl
theorem sX9_arrange_34 (lv : zL) (st : List Value) (w : zW) (nx K : Nat → zL → List Value → zW → Prop) (Rt : Option Value → zW → Prop) : z_st1 (tX9_arrange 34) 34 lv st w nx K Rt = (z_2i st (fun x y r => nx 35 lv (.int (x - y) :: r) w)) := id rfl
theorem sX9_arrange_35 (lv : zL) (st : List Value) (w : zW) (nx K : Nat → zL → List Value → zW → Prop) (Rt : Option Value → zW → Prop) : z_st1 (tX9_arrange 35) 35 lv st w nx K Rt = (z_ia st (fun x i r => z_ar0 w x (fun m g => vp_in i m ∧ nx 36 lv (.int (g i.toNatClampNeg) :: r) w))) := id rfl
theorem sX9_arrange_36 (lv : zL) (st : List Value) (w : zW) (nx K : Nat → zL → List Value → zW → Prop) (Rt : Option Value → zW → Prop) : z_st1 (tX9_arrange 36) 36 lv st w nx K Rt = (z_1i st (fun x r => z_ok1 lv 5 = true ∧ nx 38 (lv.set 5 (some (.int x))) r w)) := id rfl
theorem sX9_arrange_38 (lv : zL) (st : List Value) (w : zW) (nx K : Nat → zL → List Value → zW → Prop) (Rt : Option Value → zW → Prop) : z_st1 (tX9_arrange 38) 38 lv st w nx K Rt = (z_la lv 0 (fun x => nx 39 lv (.ref x :: st) w)) := id rfl
theorem sX9_arrange_39 (lv : zL) (st : List Value) (w : zW) (nx K : Nat → zL → List Value → zW → Prop) (Rt : Option Value → zW → Prop) : z_st1 (tX9_arrange 39) 39 lv st w nx K Rt = (z_la lv 0 (fun x => nx 40 lv (.ref x :: st) w)) := id rfl
theorem sX9_arrange_40 (lv : zL) (st : List Value) (w : zW) (nx K : Nat → zL → List Value → zW → Prop) (Rt : Option Value → zW → Prop) : z_st1 (tX9_arrange 40) 40 lv st w nx K Rt = (z_1a st (fun x r => z_ob w x 10 (fun fs => z_fl fs 25 (fun u => nx 43 lv (u :: r) w)))) := id rfl
theorem sX9_arrange_43 (lv : zL) (st : List Value) (w : zW) (nx K : Nat → zL → List Value → zW → Prop) (Rt : Option Value → zW → Prop) : z_st1 (tX9_arrange 43) 43 lv st w nx K Rt = (nx 45 lv (.int (32 : Int32) :: st) w) := id rfl
theorem sX9_arrange_45 (lv : zL) (st : List Value) (w : zW) (nx K : Nat → zL → List Value → zW → Prop) (Rt : Option Value → zW → Prop) : z_st1 (tX9_arrange 45) 45 lv st w nx K Rt = (z_li lv 5 (fun x => nx 47 lv (.int x :: st) w)) := id rfl
theorem sX9_arrange_47 (lv : zL) (st : List Value) (w : zW) (nx K : Nat → zL → List Value → zW → Prop) (Rt : Option Value → zW → Prop) : z_st1 (tX9_arrange 47) 47 lv st w nx K Rt = (z_2i st (fun x y r => nx 48 lv (.int (x * y) :: r) w)) := id rfl
theorem sX9_arrange_48 (lv : zL) (st : List Value) (w : zW) (nx K : Nat → zL → List Value → zW → Prop) (Rt : Option Value → zW → Prop) : z_st1 (tX9_arrange 48) 48 lv st w nx K Rt = (z_la lv 0 (fun x => nx 49 lv (.ref x :: st) w)) := id rfl
theorem sX9_arrange_49 (lv : zL) (st : List Value) (w : zW) (nx K : Nat → zL → List Value → zW → Prop) (Rt : Option Value → zW → Prop) : z_st1 (tX9_arrange 49) 49 lv st w nx K Rt = (z_1a st (fun x r => z_ob w x 10 (fun fs => z_fl fs 25 (fun u => nx 52 lv (u :: r) w)))) := id rfl
theorem sX9_arrange_52 (lv : zL) (st : List Value) (w : zW) (nx K : Nat → zL → List Value → zW → Prop) (Rt : Option Value → zW → Prop) : z_st1 (tX9_arrange 52) 52 lv st w nx K Rt = (nx 54 lv (.int (32 : Int32) :: st) w) := id rfl
theorem sX9_arrange_54 (lv : zL) (st : List Value) (w : zW) (nx K : Nat → zL → List Value → zW → Prop) (Rt : Option Value → zW → Prop) : z_st1 (tX9_arrange 54) 54 lv st w nx K Rt = (z_li lv 2 (fun x => nx 55 lv (.int x :: st) w)) := id rfl
theorem sX9_arrange_55 (lv : zL) (st : List Value) (w : zW) (nx K : Nat → zL → List Value → zW → Prop) (Rt : Option Value → zW → Prop) : z_st1 (tX9_arrange 55) 55 lv st w nx K Rt = (z_2i st (fun x y r => nx 56 lv (.int (x * y) :: r) w)) := id rfl
theorem sX9_arrange_59 (lv : zL) (st : List Value) (w : zW) (nx K : Nat → zL → List Value → zW → Prop) (Rt : Option Value → zW → Prop) : z_st1 (tX9_arrange 59) 59 lv st w nx K Rt = (z_1i st (fun x r => z_ok1 lv 6 = true ∧ nx 61 (lv.set 6 (some (.int x))) r w)) := id rfl
theorem sX9_arrange_61 (lv : zL) (st : List Value) (w : zW) (nx K : Nat → zL → List Value → zW → Prop) (Rt : Option Value → zW → Prop) : z_st1 (tX9_arrange 61) 61 lv st w nx K Rt = (z_li lv 6 (fun x => nx 63 lv (.int x :: st) w)) := id rfl
theorem sX9_arrange_63 (lv : zL) (st : List Value) (w : zW) (nx K : Nat → zL → List Value → zW → Prop) (Rt : Option Value → zW → Prop) : z_st1 (tX9_arrange 63) 63 lv st w nx K Rt = (z_1i st (fun x r => (0 < x → nx 91 lv r w) ∧ (¬ 0 < x → nx 66 lv r w))) := id rfl
theorem sX9_arrange_66 (lv : zL) (st : List Value) (w : zW) (nx K : Nat → zL → List Value → zW → Prop) (Rt : Option Value → zW → Prop) : z_st1 (tX9_arrange 66) 66 lv st w nx K Rt = (z_li lv 6 (fun x => nx 68 lv (.int x :: st) w)) := id rfl
theorem sX9_arrange_68 (lv : zL) (st : List Value) (w : zW) (nx K : Nat → zL → List Value → zW → Prop) (Rt : Option Value → zW → Prop) : z_st1 (tX9_arrange 68) 68 lv st w nx K Rt = (z_1i st (fun x r => (¬ x = 0 → nx 95 lv r w) ∧ (x = 0 → nx 71 lv r w))) := id rfl
theorem sX9_arrange_71 (lv : zL) (st : List Value) (w : zW) (nx K : Nat → zL → List Value → zW → Prop) (Rt : Option Value → zW → Prop) : z_st1 (tX9_arrange 71) 71 lv st w nx K Rt = (z_li lv 1 (fun x => nx 72 lv (.int x :: st) w)) := id rfl
theorem sX9_arrange_72 (lv : zL) (st : List Value) (w : zW) (nx K : Nat → zL → List Value → zW → Prop) (Rt : Option Value → zW → Prop) : z_st1 (tX9_arrange 72) 72 lv st w nx K Rt = (z_1i st (fun x r => (x = 0 → nx 95 lv r w) ∧ (¬ x = 0 → nx 75 lv r w))) := id rfl
theorem sX9_arrange_75 (lv : zL) (st : List Value) (w : zW) (nx K : Nat → zL → List Value → zW → Prop) (Rt : Option Value → zW → Prop) : z_st1 (tX9_arrange 75) 75 lv st w nx K Rt = (z_la lv 0 (fun x => nx 76 lv (.ref x :: st) w)) := id rfl
theorem sX9_arrange_76 (lv : zL) (st : List Value) (w : zW) (nx K : Nat → zL → List Value → zW → Prop) (Rt : Option Value → zW → Prop) : z_st1 (tX9_arrange 76) 76 lv st w nx K Rt = (z_1a st (fun x r => z_ob w x 10 (fun fs => z_fl fs 27 (fun u => nx 79 lv (u :: r) w)))) := id rfl
theorem sX9_arrange_79 (lv : zL) (st : List Value) (w : zW) (nx K : Nat → zL → List Value → zW → Prop) (Rt : Option Value → zW → Prop) : z_st1 (tX9_arrange 79) 79 lv st w nx K Rt = (z_li lv 5 (fun x => nx 81 lv (.int x :: st) w)) := id rfl
theorem sX9_arrange_81 (lv : zL) (st : List Value) (w : zW) (nx K : Nat → zL → List Value → zW → Prop) (Rt : Option Value → zW → Prop) : z_st1 (tX9_arrange 81) 81 lv st w nx K Rt = (z_ia st (fun x i r => z_ar0 w x (fun m g => vp_in i m ∧ nx 82 lv (.int (g i.toNatClampNeg) :: r) w))) := id rfl
theorem sX9_arrange_82 (lv : zL) (st : List Value) (w : zW) (nx K : Nat → zL → List Value → zW → Prop) (Rt : Option Value → zW → Prop) : z_st1 (tX9_arrange 82) 82 lv st w nx K Rt = (z_la lv 0 (fun x => nx 83 lv (.ref x :: st) w)) := id rfl
theorem sX9_arrange_83 (lv : zL) (st : List Value) (w : zW) (nx K : Nat → zL → List Value → zW → Prop) (Rt : Option Value → zW → Prop) : z_st1 (tX9_arrange 83) 83 lv st w nx K Rt = (z_1a st (fun x r => z_ob w x 10 (fun fs => z_fl fs 27 (fun u => nx 86 lv (u :: r) w)))) := id rfl
theorem sX9_arrange_86 (lv : zL) (st : List Value) (w : zW) (nx K : Nat → zL → List Value → zW → Prop) (Rt : Option Value → zW → Prop) : z_st1 (tX9_arrange 86) 86 lv st w nx K Rt = (z_li lv 2 (fun x => nx 87 lv (.int x :: st) w)) := id rfl
theorem sX9_arrange_87 (lv : zL) (st : List Value) (w : zW) (nx K : Nat → zL → List Value → zW → Prop) (Rt : Option Value → zW → Prop) : z_st1 (tX9_arrange 87) 87 lv st w nx K Rt = (z_ia st (fun x i r => z_ar0 w x (fun m g => vp_in i m ∧ nx 88 lv (.int (g i.toNatClampNeg) :: r) w))) := id rfl
theorem sX9_arrange_88 (lv : zL) (st : List Value) (w : zW) (nx K : Nat → zL → List Value → zW → Prop) (Rt : Option Value → zW → Prop) : z_st1 (tX9_arrange 88) 88 lv st w nx K Rt = (z_2i st (fun x y r => (x ≤ y → nx 95 lv r w) ∧ (¬ x ≤ y → nx 91 lv r w))) := id rfl
theorem sX9_arrange_91 (lv : zL) (st : List Value) (w : zW) (nx K : Nat → zL → List Value → zW → Prop) (Rt : Option Value → zW → Prop) : z_st1 (tX9_arrange 91) 91 lv st w nx K Rt = (nx 92 lv (.int (1 : Int32) :: st) w) := id rfl
theorem sX9_arrange_92 (lv : zL) (st : List Value) (w : zW) (nx K : Nat → zL → List Value → zW → Prop) (Rt : Option Value → zW → Prop) : z_st1 (tX9_arrange 92) 92 lv st w nx K Rt = (nx 96 lv st w) := id rfl
theorem sX9_arrange_95 (lv : zL) (st : List Value) (w : zW) (nx K : Nat → zL → List Value → zW → Prop) (Rt : Option Value → zW → Prop) : z_st1 (tX9_arrange 95) 95 lv st w nx K Rt = (nx 96 lv (.int (0 : Int32) :: st) w) := id rfl
theorem sX9_arrange_96 (lv : zL) (st : List Value) (w : zW) (nx K : Nat → zL → List Value → zW → Prop) (Rt : Option Value → zW → Prop) : z_st1 (tX9_arrange 96) 96 lv st w nx K Rt = (z_1i st (fun x r => z_ok1 lv 7 = true ∧ nx 98 (lv.set 7 (some (.int x))) r w)) := id rfl
theorem sX9_arrange_98 (lv : zL) (st : List Value) (w : zW) (nx K : Nat → zL → List Value → zW → Prop) (Rt : Option Value → zW → Prop) : z_st1 (tX9_arrange 98) 98 lv st w nx K Rt = (z_li lv 7 (fun x => nx 100 lv (.int x :: st) w)) := id rfl
theorem sX9_arrange_100 (lv : zL) (st : List Value) (w : zW) (nx K : Nat → zL → List Value → zW → Prop) (Rt : Option Value → zW → Prop) : z_st1 (tX9_arrange 100) 100 lv st w nx K Rt = (z_1i st (fun x r => (x = 0 → nx 114 lv r w) ∧ (¬ x = 0 → nx 103 lv r w))) := id rfl
theorem sX9_arrange_103 (lv : zL) (st : List Value) (w : zW) (nx K : Nat → zL → List Value → zW → Prop) (Rt : Option Value → zW → Prop) : z_st1 (tX9_arrange 103) 103 lv st w nx K Rt = (z_la lv 0 (fun x => nx 104 lv (.ref x :: st) w)) := id rfl
theorem sX9_arrange_104 (lv : zL) (st : List Value) (w : zW) (nx K : Nat → zL → List Value → zW → Prop) (Rt : Option Value → zW → Prop) : z_st1 (tX9_arrange 104) 104 lv st w nx K Rt = (z_1a st (fun x r => z_ob w x 10 (fun fs => z_fl fs 28 (fun u => nx 107 lv (u :: r) w)))) := id rfl
theorem sX9_arrange_107 (lv : zL) (st : List Value) (w : zW) (nx K : Nat → zL → List Value → zW → Prop) (Rt : Option Value → zW → Prop) : z_st1 (tX9_arrange 107) 107 lv st w nx K Rt = (z_li lv 3 (fun x => nx 108 lv (.int x :: st) w)) := id rfl
theorem sX9_arrange_108 (lv : zL) (st : List Value) (w : zW) (nx K : Nat → zL → List Value → zW → Prop) (Rt : Option Value → zW → Prop) : z_st1 (tX9_arrange 108) 108 lv st w nx K Rt = (z_li lv 5 (fun x => nx 110 lv (.int x :: st) w)) := id rfl
theorem sX9_arrange_110 (lv : zL) (st : List Value) (w : zW) (nx K : Nat → zL → List Value → zW → Prop) (Rt : Option Value → zW → Prop) : z_st1 (tX9_arrange 110) 110 lv st w nx K Rt = (z_iia st (fun x i u r => z_ar0 w x (fun m g => vp_in i m ∧ nx 111 lv r (z_up w x (.inl (0, m, .inl (upd g i.toNatClampNeg u))))))) := id rfl
theorem sX9_arrange_111 (lv : zL) (st : List Value) (w : zW) (nx K : Nat → zL → List Value → zW → Prop) (Rt : Option Value → zW → Prop) : z_st1 (tX9_arrange 111) 111 lv st w nx K Rt = (z_li lv 3 (fun x => z_ok1 lv 3 = true ∧ nx 114 (lv.set 3 (some (.int (x + (-1 : Int32))))) st w)) := id rfl
theorem sX9_arrange_114 (lv : zL) (st : List Value) (w : zW) (nx K : Nat → zL → List Value → zW → Prop) (Rt : Option Value → zW → Prop) : z_st1 (tX9_arrange 114) 114 lv st w nx K Rt = (z_li lv 7 (fun x => nx 116 lv (.int x :: st) w)) := id rfl
theorem sX9_arrange_116 (lv : zL) (st : List Value) (w : zW) (nx K : Nat → zL → List Value → zW → Prop) (Rt : Option Value → zW → Prop) : z_st1 (tX9_arrange 116) 116 lv st w nx K Rt = (z_1i st (fun x r => (x = 0 → nx 127 lv r w) ∧ (¬ x = 0 → nx 119 lv r w))) := id rfl
theorem sX9_arrange_119 (lv : zL) (st : List Value) (w : zW) (nx K : Nat → zL → List Value → zW → Prop) (Rt : Option Value → zW → Prop) : z_st1 (tX9_arrange 119) 119 lv st w nx K Rt = (z_li lv 3 (fun x => nx 120 lv (.int x :: st) w)) := id rfl
theorem sX9_arrange_120 (lv : zL) (st : List Value) (w : zW) (nx K : Nat → zL → List Value → zW → Prop) (Rt : Option Value → zW → Prop) : z_st1 (tX9_arrange 120) 120 lv st w nx K Rt = (z_1i st (fun x r => (x ≤ 0 → nx 127 lv r w) ∧ (¬ x ≤ 0 → nx 123 lv r w))) := id rfl
theorem sX9_arrange_123 (lv : zL) (st : List Value) (w : zW) (nx K : Nat → zL → List Value → zW → Prop) (Rt : Option Value → zW → Prop) : z_st1 (tX9_arrange 123) 123 lv st w nx K Rt = (nx 124 lv (.int (1 : Int32) :: st) w) := id rfl
theorem sX9_arrange_124 (lv : zL) (st : List Value) (w : zW) (nx K : Nat → zL → List Value → zW → Prop) (Rt : Option Value → zW → Prop) : z_st1 (tX9_arrange 124) 124 lv st w nx K Rt = (nx 128 lv st w) := id rfl
theorem sX9_arrange_127 (lv : zL) (st : List Value) (w : zW) (nx K : Nat → zL → List Value → zW → Prop) (Rt : Option Value → zW → Prop) : z_st1 (tX9_arrange 127) 127 lv st w nx K Rt = (nx 128 lv (.int (0 : Int32) :: st) w) := id rfl
theorem sX9_arrange_128 (lv : zL) (st : List Value) (w : zW) (nx K : Nat → zL → List Value → zW → Prop) (Rt : Option Value → zW → Prop) : z_st1 (tX9_arrange 128) 128 lv st w nx K Rt = (z_1i st (fun x r => z_ok1 lv 4 = true ∧ nx 130 (lv.set 4 (some (.int x))) r w)) := id rfl
theorem sX9_arrange_130 (lv : zL) (st : List Value) (w : zW) (nx K : Nat → zL → List Value → zW → Prop) (Rt : Option Value → zW → Prop) : z_st1 (tX9_arrange 130) 130 lv st w nx K Rt = (nx 23 lv st w) := id rfl
theorem sX9_arrange_133 (lv : zL) (st : List Value) (w : zW) (nx K : Nat → zL → List Value → zW → Prop) (Rt : Option Value → zW → Prop) : z_st1 (tX9_arrange 133) 133 lv st w nx K Rt = (z_la lv 0 (fun x => nx 134 lv (.ref x :: st) w)) := id rfl
theorem sX9_arrange_134 (lv : zL) (st : List Value) (w : zW) (nx K : Nat → zL → List Value → zW → Prop) (Rt : Option Value → zW → Prop) : z_st1 (tX9_arrange 134) 134 lv st w nx K Rt = (z_1a st (fun x r => z_ob w x 10 (fun fs => z_fl fs 28 (fun u => nx 137 lv (u :: r) w)))) := id rfl
theorem sX9_arrange_137 (lv : zL) (st : List Value) (w : zW) (nx K : Nat → zL → List Value → zW → Prop) (Rt : Option Value → zW → Prop) : z_st1 (tX9_arrange 137) 137 lv st w nx K Rt = (z_li lv 3 (fun x => nx 138 lv (.int x :: st) w)) := id rfl
theorem sX9_arrange_138 (lv : zL) (st : List Value) (w : zW) (nx K : Nat → zL → List Value → zW → Prop) (Rt : Option Value → zW → Prop) : z_st1 (tX9_arrange 138) 138 lv st w nx K Rt = (z_li lv 2 (fun x => nx 139 lv (.int x :: st) w)) := id rfl
theorem sX9_arrange_139 (lv : zL) (st : List Value) (w : zW) (nx K : Nat → zL → List Value → zW → Prop) (Rt : Option Value → zW → Prop) : z_st1 (tX9_arrange 139) 139 lv st w nx K Rt = (z_iia st (fun x i u r => z_ar0 w x (fun m g => vp_in i m ∧ nx 140 lv r (z_up w x (.inl (0, m, .inl (upd g i.toNatClampNeg u))))))) := id rfl
theorem sX9_arrange_140 (lv : zL) (st : List Value) (w : zW) (nx K : Nat → zL → List Value → zW → Prop) (Rt : Option Value → zW → Prop) : z_st1 (tX9_arrange 140) 140 lv st w nx K Rt = (z_li lv 2 (fun x => z_ok1 lv 2 = true ∧ nx 143 (lv.set 2 (some (.int (x + (1 : Int32))))) st w)) := id rfl
theorem sX9_arrange_143 (lv : zL) (st : List Value) (w : zW) (nx K : Nat → zL → List Value → zW → Prop) (Rt : Option Value → zW → Prop) : z_st1 (tX9_arrange 143) 143 lv st w nx K Rt = (nx 2 lv st w) := id rfl
theorem sX9_arrange_146 (lv : zL) (st : List Value) (w : zW) (nx K : Nat → zL → List Value → zW → Prop) (Rt : Option Value → zW → Prop) : z_st1 (tX9_arrange 146) 146 lv st w nx K Rt = (z_e0 st (Rt none w)) := id rfl
theorem sX9_arrange_56 (lv : zL) (st : List Value) (w : zW) (nx K : Nat → zL → List Value → zW → Prop) (Rt : Option Value → zW → Prop) : z_st1 (tX9_arrange 56) 56 lv st w nx K Rt = K 56 lv st w := id rfl
theorem dX9_arrange_56 : decode cX9_arrange 56 = .ok (.invokevirtual 123, 3) := by decide +kernel

def tmX9_sort (pc : Nat) : zI := match pc with
  | 0 => (1, 0, 0, 1, 0)
  | 1 => (6, 0, 0, 2, 0)
  | 2 => (47, 10, 0, 5, 0)
  | 5 => (1, 0, 0, 6, 0)
  | 6 => (46, 10, 3, 9, 0)
  | 9 => (6, 0, 0, 10, 1)
  | 10 => (40, 16, 0, 13, 0)
  | 13 => (6, 0, 0, 15, (-5))
  | 15 => (53, 0, 0, 16, 0)
  | 16 => (1, 0, 0, 17, 0)
  | 17 => (6, 0, 0, 18, 0)
  | 18 => (47, 10, 30, 21, 0)
  | 21 => (1, 0, 0, 22, 0)
  | 22 => (46, 10, 19, 25, 0)
  | 25 => (6, 0, 0, 26, 0)
  | 26 => (6, 0, 0, 27, 0)
  | 27 => (49, 0, 0, 28, 0)
  | 28 => (1, 0, 0, 29, 0)
  | 29 => (46, 10, 19, 32, 0)
  | 32 => (6, 0, 0, 33, 1)
  | 33 => (6, 0, 0, 34, 0)
  | 34 => (49, 0, 0, 35, 0)
  | 35 => (6, 0, 0, 36, 0)
  | 36 => (3, 2, 0, 37, 0)
  | 37 => (6, 0, 0, 38, 0)
  | 38 => (3, 3, 0, 39, 0)
  | 39 => (0, 3, 0, 40, 0)
  | 40 => (1, 0, 0, 41, 0)
  | 41 => (46, 10, 22, 44, 0)
  | 44 => (43, 137, 0, 47, 0)
  | 47 => (1, 0, 0, 48, 0)
  | 48 => (1, 0, 0, 49, 0)
  | 49 => (46, 10, 21, 52, 0)
  | 52 => (0, 3, 0, 53, 0)
  | 53 => (48, 0, 0, 54, 0)
  | 57 => (1, 0, 0, 58, 0)
  | 58 => (1, 0, 0, 59, 0)
  | 59 => (46, 10, 30, 62, 0)
  | 62 => (6, 0, 0, 63, 1)
  | 63 => (9, 0, 0, 64, 0)
  | 67 => (34, 84, 0, 70, 0)
  | 70 => (1, 0, 0, 71, 0)
  | 71 => (6, 0, 0, 72, 0)
  | 72 => (1, 0, 0, 73, 0)
  | 73 => (46, 10, 30, 76, 0)
  | 76 => (6, 0, 0, 77, 1)
  | 77 => (9, 0, 0, 78, 0)
  | 81 => (33, 85, 0, 84, 0)
  | 84 => (6, 0, 0, 85, 0)
  | 85 => (3, 4, 0, 87, 0)
  | 87 => (0, 4, 0, 89, 0)
  | 89 => (37, 99, 0, 92, 0)
  | 92 => (1, 0, 0, 93, 0)
  | 93 => (6, 0, 0, 94, 1)
  | 94 => (47, 10, 0, 97, 0)
  | 97 => (6, 0, 0, 98, 0)
  | 98 => (53, 0, 0, 99, 0)
  | 99 => (1, 0, 0, 100, 0)
  | 100 => (29, 0, 0, 101, 0)
  | 101 => (46, 10, 30, 104, 0)
  | 104 => (0, 4, 0, 106, 0)
  | 106 => (35, 113, 0, 109, 0)
  | 109 => (6, 0, 0, 110, 1)
  | 110 => (33, 114, 0, 113, 0)
  | 113 => (6, 0, 0, 114, 0)
  | 114 => (9, 0, 0, 115, 0)
  | 115 => (47, 10, 30, 118, 0)
  | 118 => (0, 2, 0, 119, 0)
  | 119 => (0, 4, 0, 121, 0)
  | 121 => (35, 128, 0, 124, 0)
  | 124 => (6, 0, 0, 125, 1)
  | 125 => (33, 129, 0, 128, 0)
  | 128 => (6, 0, 0, 129, 0)
  | 129 => (8, 0, 0, 130, 0)
  | 130 => (3, 2, 0, 131, 0)
  | 131 => (7, 3, 0, 134, 1)
  | 134 => (33, 39, 0, 137, 0)
  | 137 => (1, 0, 0, 138, 0)
  | 138 => (0, 1, 0, 139, 0)
  | 139 => (35, 146, 0, 142, 0)
  | 142 => (6, 0, 0, 143, 1)
  | 143 => (33, 147, 0, 146, 0)
  | 146 => (6, 0, 0, 147, 0)
  | 150 => (1, 0, 0, 151, 0)
  | 154 => (3, 3, 0, 155, 0)
  | 155 => (6, 0, 0, 156, 0)
  | 156 => (3, 4, 0, 158, 0)
  | 158 => (6, 0, 0, 159, 0)
  | 159 => (3, 5, 0, 161, 0)
  | 161 => (0, 5, 0, 163, 0)
  | 163 => (1, 0, 0, 164, 0)
  | 164 => (46, 10, 31, 167, 0)
  | 167 => (43, 223, 0, 170, 0)
  | 170 => (1, 0, 0, 171, 0)
  | 171 => (6, 0, 0, 172, 1)
  | 172 => (1, 0, 0, 173, 0)
  | 173 => (46, 10, 29, 176, 0)
  | 176 => (0, 5, 0, 178, 0)
  | 178 => (48, 0, 0, 179, 0)
  | 182 => (3, 6, 0, 184, 0)
  | 184 => (0, 6, 0, 186, 0)
  | 186 => (37, 196, 0, 189, 0)
  | 189 => (1, 0, 0, 190, 0)
  | 190 => (6, 0, 0, 191, 1)
  | 191 => (47, 10, 0, 194, 0)
  | 194 => (6, 0, 0, 195, 0)
  | 195 => (53, 0, 0, 196, 0)
  | 196 => (1, 0, 0, 197, 0)
  | 197 => (46, 10, 29, 200, 0)
  | 200 => (0, 4, 0, 202, 0)
  | 202 => (1, 0, 0, 203, 0)
  | 203 => (46, 10, 29, 206, 0)
  | 206 => (0, 5, 0, 208, 0)
  | 208 => (48, 0, 0, 209, 0)
  | 209 => (49, 0, 0, 210, 0)
  | 210 => (0, 4, 0, 212, 0)
  | 212 => (0, 6, 0, 214, 0)
  | 214 => (8, 0, 0, 215, 0)
  | 215 => (3, 4, 0, 217, 0)
  | 217 => (7, 5, 0, 220, 1)
  | 220 => (33, 161, 0, 223, 0)
  | 223 => (1, 0, 0, 224, 0)
  | 224 => (46, 10, 35, 227, 0)
  | 227 => (6, 0, 0, 229, 8)
  | 229 => (1, 0, 0, 230, 0)
  | 230 => (46, 10, 31, 233, 0)
  | 233 => (0, 4, 0, 235, 0)
  | 235 => (9, 0, 0, 236, 0)
  | 236 => (49, 0, 0, 237, 0)
  | 237 => (1, 0, 0, 238, 0)
  | 238 => (46, 10, 35, 241, 0)
  | 241 => (6, 0, 0, 243, 7)
  | 243 => (0, 3, 0, 244, 0)
  | 244 => (49, 0, 0, 245, 0)
  | 245 => (1, 0, 0, 246, 0)
  | 246 => (46, 10, 35, 249, 0)
  | 249 => (6, 0, 0, 251, 6)
  | 251 => (0, 2, 0, 252, 0)
  | 252 => (49, 0, 0, 253, 0)
  | 253 => (1, 0, 0, 254, 0)
  | 254 => (46, 10, 35, 257, 0)
  | 257 => (6, 0, 0, 258, 4)
  | 258 => (1, 0, 0, 259, 0)
  | 259 => (46, 10, 30, 262, 0)
  | 262 => (1, 0, 0, 263, 0)
  | 263 => (46, 10, 1, 266, 0)
  | 266 => (8, 0, 0, 267, 0)
  | 267 => (6, 0, 0, 268, 1)
  | 268 => (9, 0, 0, 269, 0)
  | 269 => (1, 0, 0, 270, 0)
  | 270 => (46, 10, 1, 273, 0)
  | 273 => (15, 0, 0, 274, 0)
  | 274 => (49, 0, 0, 275, 0)
  | 275 => (1, 0, 0, 276, 0)
  | 276 => (46, 10, 35, 279, 0)
  | 279 => (6, 0, 0, 280, 5)
  | 280 => (6, 0, 0, 281, 0)
  | 281 => (49, 0, 0, 282, 0)
  | 282 => (1, 0, 0, 283, 0)
  | 283 => (46, 10, 35, 286, 0)
  | 286 => (6, 0, 0, 287, 4)
  | 287 => (48, 0, 0, 288, 0)
  | 288 => (3, 5, 0, 290, 0)
  | 290 => (0, 5, 0, 292, 0)
  | 292 => (6, 0, 0, 293, 1)
  | 293 => (45, 325, 0, 296, 0)
  | 296 => (1, 0, 0, 297, 0)
  | 297 => (46, 10, 35, 300, 0)
  | 300 => (6, 0, 0, 301, 5)
  | 301 => (32, 0, 0, 302, 0)
  | 302 => (48, 0, 0, 303, 0)
  | 303 => (6, 0, 0, 304, 1)
  | 304 => (8, 0, 0, 305, 0)
  | 305 => (49, 0, 0, 306, 0)
  | 306 => (0, 5, 0, 308, 0)
  | 308 => (1, 0, 0, 309, 0)
  | 309 => (46, 10, 2, 312, 0)
  | 312 => (8, 0, 0, 313, 0)
  | 313 => (6, 0, 0, 314, 1)
  | 314 => (9, 0, 0, 315, 0)
  | 315 => (1, 0, 0, 316, 0)
  | 316 => (46, 10, 2, 319, 0)
  | 319 => (15, 0, 0, 320, 0)
  | 320 => (3, 5, 0, 322, 0)
  | 322 => (33, 290, 0, 325, 0)
  | 325 => (1, 0, 0, 326, 0)
  | 326 => (0, 4, 0, 328, 0)
  | 328 => (47, 10, 31, 331, 0)
  | 331 => (1, 0, 0, 332, 0)
  | 332 => (6, 0, 0, 333, 0)
  | 333 => (47, 10, 22, 336, 0)
  | 336 => (1, 0, 0, 337, 0)
  | 340 => (53, 0, 0, 341, 0)
  | _ => (99, 0, 0, 0, 0)
def tX9_sort (pc : Nat) : zI := if pc < 341 then tmX9_sort pc else (99, 0, 0, 0, 0)
theorem tkX9_sort : z_tab RX9 wsX9_sort 7 (some .int) cX9_sort 341 tX9_sort := z_tab_of (tm := tmX9_sort) (by decide +kernel)
theorem sX9_sort_0 (lv : zL) (st : List Value) (w : zW) (nx K : Nat → zL → List Value → zW → Prop) (Rt : Option Value → zW → Prop) : z_st1 (tX9_sort 0) 0 lv st w nx K Rt = (z_la lv 0 (fun x => nx 1 lv (.ref x :: st) w)) := id rfl
theorem sX9_sort_1 (lv : zL) (st : List Value) (w : zW) (nx K : Nat → zL → List Value → zW → Prop) (Rt : Option Value → zW → Prop) : z_st1 (tX9_sort 1) 1 lv st w nx K Rt = (nx 2 lv (.int (0 : Int32) :: st) w) := id rfl
theorem sX9_sort_2 (lv : zL) (st : List Value) (w : zW) (nx K : Nat → zL → List Value → zW → Prop) (Rt : Option Value → zW → Prop) : z_st1 (tX9_sort 2) 2 lv st w nx K Rt = (z_ia st (fun x i r => z_ob w x 10 (fun fs => 0 < fs.length ∧ nx 5 lv r (z_up w x (.inr (10, fs.set 0 (.int i))))))) := id rfl
theorem sX9_sort_5 (lv : zL) (st : List Value) (w : zW) (nx K : Nat → zL → List Value → zW → Prop) (Rt : Option Value → zW → Prop) : z_st1 (tX9_sort 5) 5 lv st w nx K Rt = (z_la lv 0 (fun x => nx 6 lv (.ref x :: st) w)) := id rfl
theorem sX9_sort_6 (lv : zL) (st : List Value) (w : zW) (nx K : Nat → zL → List Value → zW → Prop) (Rt : Option Value → zW → Prop) : z_st1 (tX9_sort 6) 6 lv st w nx K Rt = (z_1a st (fun x r => z_ob w x 10 (fun fs => z_fl fs 3 (fun u => nx 9 lv (u :: r) w)))) := id rfl
theorem sX9_sort_9 (lv : zL) (st : List Value) (w : zW) (nx K : Nat → zL → List Value → zW → Prop) (Rt : Option Value → zW → Prop) : z_st1 (tX9_sort 9) 9 lv st w nx K Rt = (nx 10 lv (.int (1 : Int32) :: st) w) := id rfl
theorem sX9_sort_10 (lv : zL) (st : List Value) (w : zW) (nx K : Nat → zL → List Value → zW → Prop) (Rt : Option Value → zW → Prop) : z_st1 (tX9_sort 10) 10 lv st w nx K Rt = (z_2i st (fun x y r => (x = y → nx 16 lv r w) ∧ (¬ x = y → nx 13 lv r w))) := id rfl
theorem sX9_sort_13 (lv : zL) (st : List Value) (w : zW) (nx K : Nat → zL → List Value → zW → Prop) (Rt : Option Value → zW → Prop) : z_st1 (tX9_sort 13) 13 lv st w nx K Rt = (nx 15 lv (.int (-5 : Int32) :: st) w) := id rfl
theorem sX9_sort_15 (lv : zL) (st : List Value) (w : zW) (nx K : Nat → zL → List Value → zW → Prop) (Rt : Option Value → zW → Prop) : z_st1 (tX9_sort 15) 15 lv st w nx K Rt = (z_e1 st (fun x => Rt (some (.int x)) w)) := id rfl
theorem sX9_sort_16 (lv : zL) (st : List Value) (w : zW) (nx K : Nat → zL → List Value → zW → Prop) (Rt : Option Value → zW → Prop) : z_st1 (tX9_sort 16) 16 lv st w nx K Rt = (z_la lv 0 (fun x => nx 17 lv (.ref x :: st) w)) := id rfl
theorem sX9_sort_17 (lv : zL) (st : List Value) (w : zW) (nx K : Nat → zL → List Value → zW → Prop) (Rt : Option Value → zW → Prop) : z_st1 (tX9_sort 17) 17 lv st w nx K Rt = (nx 18 lv (.int (0 : Int32) :: st) w) := id rfl
theorem sX9_sort_18 (lv : zL) (st : List Value) (w : zW) (nx K : Nat → zL → List Value → zW → Prop) (Rt : Option Value → zW → Prop) : z_st1 (tX9_sort 18) 18 lv st w nx K Rt = (z_ia st (fun x i r => z_ob w x 10 (fun fs => 30 < fs.length ∧ nx 21 lv r (z_up w x (.inr (10, fs.set 30 (.int i))))))) := id rfl
theorem sX9_sort_21 (lv : zL) (st : List Value) (w : zW) (nx K : Nat → zL → List Value → zW → Prop) (Rt : Option Value → zW → Prop) : z_st1 (tX9_sort 21) 21 lv st w nx K Rt = (z_la lv 0 (fun x => nx 22 lv (.ref x :: st) w)) := id rfl
theorem sX9_sort_22 (lv : zL) (st : List Value) (w : zW) (nx K : Nat → zL → List Value → zW → Prop) (Rt : Option Value → zW → Prop) : z_st1 (tX9_sort 22) 22 lv st w nx K Rt = (z_1a st (fun x r => z_ob w x 10 (fun fs => z_fl fs 19 (fun u => nx 25 lv (u :: r) w)))) := id rfl
theorem sX9_sort_25 (lv : zL) (st : List Value) (w : zW) (nx K : Nat → zL → List Value → zW → Prop) (Rt : Option Value → zW → Prop) : z_st1 (tX9_sort 25) 25 lv st w nx K Rt = (nx 26 lv (.int (0 : Int32) :: st) w) := id rfl
theorem sX9_sort_26 (lv : zL) (st : List Value) (w : zW) (nx K : Nat → zL → List Value → zW → Prop) (Rt : Option Value → zW → Prop) : z_st1 (tX9_sort 26) 26 lv st w nx K Rt = (nx 27 lv (.int (0 : Int32) :: st) w) := id rfl
theorem sX9_sort_27 (lv : zL) (st : List Value) (w : zW) (nx K : Nat → zL → List Value → zW → Prop) (Rt : Option Value → zW → Prop) : z_st1 (tX9_sort 27) 27 lv st w nx K Rt = (z_iia st (fun x i u r => z_ar0 w x (fun m g => vp_in i m ∧ nx 28 lv r (z_up w x (.inl (0, m, .inl (upd g i.toNatClampNeg u))))))) := id rfl
theorem sX9_sort_28 (lv : zL) (st : List Value) (w : zW) (nx K : Nat → zL → List Value → zW → Prop) (Rt : Option Value → zW → Prop) : z_st1 (tX9_sort 28) 28 lv st w nx K Rt = (z_la lv 0 (fun x => nx 29 lv (.ref x :: st) w)) := id rfl
theorem sX9_sort_29 (lv : zL) (st : List Value) (w : zW) (nx K : Nat → zL → List Value → zW → Prop) (Rt : Option Value → zW → Prop) : z_st1 (tX9_sort 29) 29 lv st w nx K Rt = (z_1a st (fun x r => z_ob w x 10 (fun fs => z_fl fs 19 (fun u => nx 32 lv (u :: r) w)))) := id rfl
theorem sX9_sort_32 (lv : zL) (st : List Value) (w : zW) (nx K : Nat → zL → List Value → zW → Prop) (Rt : Option Value → zW → Prop) : z_st1 (tX9_sort 32) 32 lv st w nx K Rt = (nx 33 lv (.int (1 : Int32) :: st) w) := id rfl
theorem sX9_sort_33 (lv : zL) (st : List Value) (w : zW) (nx K : Nat → zL → List Value → zW → Prop) (Rt : Option Value → zW → Prop) : z_st1 (tX9_sort 33) 33 lv st w nx K Rt = (nx 34 lv (.int (0 : Int32) :: st) w) := id rfl
theorem sX9_sort_34 (lv : zL) (st : List Value) (w : zW) (nx K : Nat → zL → List Value → zW → Prop) (Rt : Option Value → zW → Prop) : z_st1 (tX9_sort 34) 34 lv st w nx K Rt = (z_iia st (fun x i u r => z_ar0 w x (fun m g => vp_in i m ∧ nx 35 lv r (z_up w x (.inl (0, m, .inl (upd g i.toNatClampNeg u))))))) := id rfl
theorem sX9_sort_35 (lv : zL) (st : List Value) (w : zW) (nx K : Nat → zL → List Value → zW → Prop) (Rt : Option Value → zW → Prop) : z_st1 (tX9_sort 35) 35 lv st w nx K Rt = (nx 36 lv (.int (0 : Int32) :: st) w) := id rfl
theorem sX9_sort_36 (lv : zL) (st : List Value) (w : zW) (nx K : Nat → zL → List Value → zW → Prop) (Rt : Option Value → zW → Prop) : z_st1 (tX9_sort 36) 36 lv st w nx K Rt = (z_1i st (fun x r => z_ok1 lv 2 = true ∧ nx 37 (lv.set 2 (some (.int x))) r w)) := id rfl
theorem sX9_sort_37 (lv : zL) (st : List Value) (w : zW) (nx K : Nat → zL → List Value → zW → Prop) (Rt : Option Value → zW → Prop) : z_st1 (tX9_sort 37) 37 lv st w nx K Rt = (nx 38 lv (.int (0 : Int32) :: st) w) := id rfl
theorem sX9_sort_38 (lv : zL) (st : List Value) (w : zW) (nx K : Nat → zL → List Value → zW → Prop) (Rt : Option Value → zW → Prop) : z_st1 (tX9_sort 38) 38 lv st w nx K Rt = (z_1i st (fun x r => z_ok1 lv 3 = true ∧ nx 39 (lv.set 3 (some (.int x))) r w)) := id rfl
theorem sX9_sort_39 (lv : zL) (st : List Value) (w : zW) (nx K : Nat → zL → List Value → zW → Prop) (Rt : Option Value → zW → Prop) : z_st1 (tX9_sort 39) 39 lv st w nx K Rt = (z_li lv 3 (fun x => nx 40 lv (.int x :: st) w)) := id rfl
theorem sX9_sort_40 (lv : zL) (st : List Value) (w : zW) (nx K : Nat → zL → List Value → zW → Prop) (Rt : Option Value → zW → Prop) : z_st1 (tX9_sort 40) 40 lv st w nx K Rt = (z_la lv 0 (fun x => nx 41 lv (.ref x :: st) w)) := id rfl
theorem sX9_sort_41 (lv : zL) (st : List Value) (w : zW) (nx K : Nat → zL → List Value → zW → Prop) (Rt : Option Value → zW → Prop) : z_st1 (tX9_sort 41) 41 lv st w nx K Rt = (z_1a st (fun x r => z_ob w x 10 (fun fs => z_fl fs 22 (fun u => nx 44 lv (u :: r) w)))) := id rfl
theorem sX9_sort_44 (lv : zL) (st : List Value) (w : zW) (nx K : Nat → zL → List Value → zW → Prop) (Rt : Option Value → zW → Prop) : z_st1 (tX9_sort 44) 44 lv st w nx K Rt = (z_2i st (fun x y r => (y ≤ x → nx 137 lv r w) ∧ (¬ y ≤ x → nx 47 lv r w))) := id rfl
theorem sX9_sort_47 (lv : zL) (st : List Value) (w : zW) (nx K : Nat → zL → List Value → zW → Prop) (Rt : Option Value → zW → Prop) : z_st1 (tX9_sort 47) 47 lv st w nx K Rt = (z_la lv 0 (fun x => nx 48 lv (.ref x :: st) w)) := id rfl
theorem sX9_sort_48 (lv : zL) (st : List Value) (w : zW) (nx K : Nat → zL → List Value → zW → Prop) (Rt : Option Value → zW → Prop) : z_st1 (tX9_sort 48) 48 lv st w nx K Rt = (z_la lv 0 (fun x => nx 49 lv (.ref x :: st) w)) := id rfl
theorem sX9_sort_49 (lv : zL) (st : List Value) (w : zW) (nx K : Nat → zL → List Value → zW → Prop) (Rt : Option Value → zW → Prop) : z_st1 (tX9_sort 49) 49 lv st w nx K Rt = (z_1a st (fun x r => z_ob w x 10 (fun fs => z_fl fs 21 (fun u => nx 52 lv (u :: r) w)))) := id rfl
theorem sX9_sort_52 (lv : zL) (st : List Value) (w : zW) (nx K : Nat → zL → List Value → zW → Prop) (Rt : Option Value → zW → Prop) : z_st1 (tX9_sort 52) 52 lv st w nx K Rt = (z_li lv 3 (fun x => nx 53 lv (.int x :: st) w)) := id rfl
theorem sX9_sort_53 (lv : zL) (st : List Value) (w : zW) (nx K : Nat → zL → List Value → zW → Prop) (Rt : Option Value → zW → Prop) : z_st1 (tX9_sort 53) 53 lv st w nx K Rt = (z_ia st (fun x i r => z_ar0 w x (fun m g => vp_in i m ∧ nx 54 lv (.int (g i.toNatClampNeg) :: r) w))) := id rfl
theorem sX9_sort_57 (lv : zL) (st : List Value) (w : zW) (nx K : Nat → zL → List Value → zW → Prop) (Rt : Option Value → zW → Prop) : z_st1 (tX9_sort 57) 57 lv st w nx K Rt = (z_la lv 0 (fun x => nx 58 lv (.ref x :: st) w)) := id rfl
theorem sX9_sort_58 (lv : zL) (st : List Value) (w : zW) (nx K : Nat → zL → List Value → zW → Prop) (Rt : Option Value → zW → Prop) : z_st1 (tX9_sort 58) 58 lv st w nx K Rt = (z_la lv 0 (fun x => nx 59 lv (.ref x :: st) w)) := id rfl
theorem sX9_sort_59 (lv : zL) (st : List Value) (w : zW) (nx K : Nat → zL → List Value → zW → Prop) (Rt : Option Value → zW → Prop) : z_st1 (tX9_sort 59) 59 lv st w nx K Rt = (z_1a st (fun x r => z_ob w x 10 (fun fs => z_fl fs 30 (fun u => nx 62 lv (u :: r) w)))) := id rfl
theorem sX9_sort_62 (lv : zL) (st : List Value) (w : zW) (nx K : Nat → zL → List Value → zW → Prop) (Rt : Option Value → zW → Prop) : z_st1 (tX9_sort 62) 62 lv st w nx K Rt = (nx 63 lv (.int (1 : Int32) :: st) w) := id rfl
theorem sX9_sort_63 (lv : zL) (st : List Value) (w : zW) (nx K : Nat → zL → List Value → zW → Prop) (Rt : Option Value → zW → Prop) : z_st1 (tX9_sort 63) 63 lv st w nx K Rt = (z_2i st (fun x y r => nx 64 lv (.int (x - y) :: r) w)) := id rfl
theorem sX9_sort_67 (lv : zL) (st : List Value) (w : zW) (nx K : Nat → zL → List Value → zW → Prop) (Rt : Option Value → zW → Prop) : z_st1 (tX9_sort 67) 67 lv st w nx K Rt = (z_1i st (fun x r => (x = 0 → nx 84 lv r w) ∧ (¬ x = 0 → nx 70 lv r w))) := id rfl
theorem sX9_sort_70 (lv : zL) (st : List Value) (w : zW) (nx K : Nat → zL → List Value → zW → Prop) (Rt : Option Value → zW → Prop) : z_st1 (tX9_sort 70) 70 lv st w nx K Rt = (z_la lv 0 (fun x => nx 71 lv (.ref x :: st) w)) := id rfl
theorem sX9_sort_71 (lv : zL) (st : List Value) (w : zW) (nx K : Nat → zL → List Value → zW → Prop) (Rt : Option Value → zW → Prop) : z_st1 (tX9_sort 71) 71 lv st w nx K Rt = (nx 72 lv (.int (0 : Int32) :: st) w) := id rfl
theorem sX9_sort_72 (lv : zL) (st : List Value) (w : zW) (nx K : Nat → zL → List Value → zW → Prop) (Rt : Option Value → zW → Prop) : z_st1 (tX9_sort 72) 72 lv st w nx K Rt = (z_la lv 0 (fun x => nx 73 lv (.ref x :: st) w)) := id rfl
theorem sX9_sort_73 (lv : zL) (st : List Value) (w : zW) (nx K : Nat → zL → List Value → zW → Prop) (Rt : Option Value → zW → Prop) : z_st1 (tX9_sort 73) 73 lv st w nx K Rt = (z_1a st (fun x r => z_ob w x 10 (fun fs => z_fl fs 30 (fun u => nx 76 lv (u :: r) w)))) := id rfl
theorem sX9_sort_76 (lv : zL) (st : List Value) (w : zW) (nx K : Nat → zL → List Value → zW → Prop) (Rt : Option Value → zW → Prop) : z_st1 (tX9_sort 76) 76 lv st w nx K Rt = (nx 77 lv (.int (1 : Int32) :: st) w) := id rfl
theorem sX9_sort_77 (lv : zL) (st : List Value) (w : zW) (nx K : Nat → zL → List Value → zW → Prop) (Rt : Option Value → zW → Prop) : z_st1 (tX9_sort 77) 77 lv st w nx K Rt = (z_2i st (fun x y r => nx 78 lv (.int (x - y) :: r) w)) := id rfl
theorem sX9_sort_81 (lv : zL) (st : List Value) (w : zW) (nx K : Nat → zL → List Value → zW → Prop) (Rt : Option Value → zW → Prop) : z_st1 (tX9_sort 81) 81 lv st w nx K Rt = (nx 85 lv st w) := id rfl
theorem sX9_sort_84 (lv : zL) (st : List Value) (w : zW) (nx K : Nat → zL → List Value → zW → Prop) (Rt : Option Value → zW → Prop) : z_st1 (tX9_sort 84) 84 lv st w nx K Rt = (nx 85 lv (.int (0 : Int32) :: st) w) := id rfl
theorem sX9_sort_85 (lv : zL) (st : List Value) (w : zW) (nx K : Nat → zL → List Value → zW → Prop) (Rt : Option Value → zW → Prop) : z_st1 (tX9_sort 85) 85 lv st w nx K Rt = (z_1i st (fun x r => z_ok1 lv 4 = true ∧ nx 87 (lv.set 4 (some (.int x))) r w)) := id rfl
theorem sX9_sort_87 (lv : zL) (st : List Value) (w : zW) (nx K : Nat → zL → List Value → zW → Prop) (Rt : Option Value → zW → Prop) : z_st1 (tX9_sort 87) 87 lv st w nx K Rt = (z_li lv 4 (fun x => nx 89 lv (.int x :: st) w)) := id rfl
theorem sX9_sort_89 (lv : zL) (st : List Value) (w : zW) (nx K : Nat → zL → List Value → zW → Prop) (Rt : Option Value → zW → Prop) : z_st1 (tX9_sort 89) 89 lv st w nx K Rt = (z_1i st (fun x r => (0 ≤ x → nx 99 lv r w) ∧ (¬ 0 ≤ x → nx 92 lv r w))) := id rfl
theorem sX9_sort_92 (lv : zL) (st : List Value) (w : zW) (nx K : Nat → zL → List Value → zW → Prop) (Rt : Option Value → zW → Prop) : z_st1 (tX9_sort 92) 92 lv st w nx K Rt = (z_la lv 0 (fun x => nx 93 lv (.ref x :: st) w)) := id rfl
theorem sX9_sort_93 (lv : zL) (st : List Value) (w : zW) (nx K : Nat → zL → List Value → zW → Prop) (Rt : Option Value → zW → Prop) : z_st1 (tX9_sort 93) 93 lv st w nx K Rt = (nx 94 lv (.int (1 : Int32) :: st) w) := id rfl
theorem sX9_sort_94 (lv : zL) (st : List Value) (w : zW) (nx K : Nat → zL → List Value → zW → Prop) (Rt : Option Value → zW → Prop) : z_st1 (tX9_sort 94) 94 lv st w nx K Rt = (z_ia st (fun x i r => z_ob w x 10 (fun fs => 0 < fs.length ∧ nx 97 lv r (z_up w x (.inr (10, fs.set 0 (.int i))))))) := id rfl
theorem sX9_sort_97 (lv : zL) (st : List Value) (w : zW) (nx K : Nat → zL → List Value → zW → Prop) (Rt : Option Value → zW → Prop) : z_st1 (tX9_sort 97) 97 lv st w nx K Rt = (nx 98 lv (.int (0 : Int32) :: st) w) := id rfl
theorem sX9_sort_98 (lv : zL) (st : List Value) (w : zW) (nx K : Nat → zL → List Value → zW → Prop) (Rt : Option Value → zW → Prop) : z_st1 (tX9_sort 98) 98 lv st w nx K Rt = (z_e1 st (fun x => Rt (some (.int x)) w)) := id rfl
theorem sX9_sort_99 (lv : zL) (st : List Value) (w : zW) (nx K : Nat → zL → List Value → zW → Prop) (Rt : Option Value → zW → Prop) : z_st1 (tX9_sort 99) 99 lv st w nx K Rt = (z_la lv 0 (fun x => nx 100 lv (.ref x :: st) w)) := id rfl
theorem sX9_sort_100 (lv : zL) (st : List Value) (w : zW) (nx K : Nat → zL → List Value → zW → Prop) (Rt : Option Value → zW → Prop) : z_st1 (tX9_sort 100) 100 lv st w nx K Rt = (z_d1 st (fun x r => nx 101 lv (x :: x :: r) w)) := id rfl
theorem sX9_sort_101 (lv : zL) (st : List Value) (w : zW) (nx K : Nat → zL → List Value → zW → Prop) (Rt : Option Value → zW → Prop) : z_st1 (tX9_sort 101) 101 lv st w nx K Rt = (z_1a st (fun x r => z_ob w x 10 (fun fs => z_fl fs 30 (fun u => nx 104 lv (u :: r) w)))) := id rfl
theorem sX9_sort_104 (lv : zL) (st : List Value) (w : zW) (nx K : Nat → zL → List Value → zW → Prop) (Rt : Option Value → zW → Prop) : z_st1 (tX9_sort 104) 104 lv st w nx K Rt = (z_li lv 4 (fun x => nx 106 lv (.int x :: st) w)) := id rfl
theorem sX9_sort_106 (lv : zL) (st : List Value) (w : zW) (nx K : Nat → zL → List Value → zW → Prop) (Rt : Option Value → zW → Prop) : z_st1 (tX9_sort 106) 106 lv st w nx K Rt = (z_1i st (fun x r => (¬ x = 0 → nx 113 lv r w) ∧ (x = 0 → nx 109 lv r w))) := id rfl
theorem sX9_sort_109 (lv : zL) (st : List Value) (w : zW) (nx K : Nat → zL → List Value → zW → Prop) (Rt : Option Value → zW → Prop) : z_st1 (tX9_sort 109) 109 lv st w nx K Rt = (nx 110 lv (.int (1 : Int32) :: st) w) := id rfl
theorem sX9_sort_110 (lv : zL) (st : List Value) (w : zW) (nx K : Nat → zL → List Value → zW → Prop) (Rt : Option Value → zW → Prop) : z_st1 (tX9_sort 110) 110 lv st w nx K Rt = (nx 114 lv st w) := id rfl
theorem sX9_sort_113 (lv : zL) (st : List Value) (w : zW) (nx K : Nat → zL → List Value → zW → Prop) (Rt : Option Value → zW → Prop) : z_st1 (tX9_sort 113) 113 lv st w nx K Rt = (nx 114 lv (.int (0 : Int32) :: st) w) := id rfl
theorem sX9_sort_114 (lv : zL) (st : List Value) (w : zW) (nx K : Nat → zL → List Value → zW → Prop) (Rt : Option Value → zW → Prop) : z_st1 (tX9_sort 114) 114 lv st w nx K Rt = (z_2i st (fun x y r => nx 115 lv (.int (x - y) :: r) w)) := id rfl
theorem sX9_sort_115 (lv : zL) (st : List Value) (w : zW) (nx K : Nat → zL → List Value → zW → Prop) (Rt : Option Value → zW → Prop) : z_st1 (tX9_sort 115) 115 lv st w nx K Rt = (z_ia st (fun x i r => z_ob w x 10 (fun fs => 30 < fs.length ∧ nx 118 lv r (z_up w x (.inr (10, fs.set 30 (.int i))))))) := id rfl
theorem sX9_sort_118 (lv : zL) (st : List Value) (w : zW) (nx K : Nat → zL → List Value → zW → Prop) (Rt : Option Value → zW → Prop) : z_st1 (tX9_sort 118) 118 lv st w nx K Rt = (z_li lv 2 (fun x => nx 119 lv (.int x :: st) w)) := id rfl
theorem sX9_sort_119 (lv : zL) (st : List Value) (w : zW) (nx K : Nat → zL → List Value → zW → Prop) (Rt : Option Value → zW → Prop) : z_st1 (tX9_sort 119) 119 lv st w nx K Rt = (z_li lv 4 (fun x => nx 121 lv (.int x :: st) w)) := id rfl
theorem sX9_sort_121 (lv : zL) (st : List Value) (w : zW) (nx K : Nat → zL → List Value → zW → Prop) (Rt : Option Value → zW → Prop) : z_st1 (tX9_sort 121) 121 lv st w nx K Rt = (z_1i st (fun x r => (¬ x = 0 → nx 128 lv r w) ∧ (x = 0 → nx 124 lv r w))) := id rfl
theorem sX9_sort_124 (lv : zL) (st : List Value) (w : zW) (nx K : Nat → zL → List Value → zW → Prop) (Rt : Option Value → zW → Prop) : z_st1 (tX9_sort 124) 124 lv st w nx K Rt = (nx 125 lv (.int (1 : Int32) :: st) w) := id rfl
theorem sX9_sort_125 (lv : zL) (st : List Value) (w : zW) (nx K : Nat → zL → List Value → zW → Prop) (Rt : Option Value → zW → Prop) : z_st1 (tX9_sort 125) 125 lv st w nx K Rt = (nx 129 lv st w) := id rfl
theorem sX9_sort_128 (lv : zL) (st : List Value) (w : zW) (nx K : Nat → zL → List Value → zW → Prop) (Rt : Option Value → zW → Prop) : z_st1 (tX9_sort 128) 128 lv st w nx K Rt = (nx 129 lv (.int (0 : Int32) :: st) w) := id rfl
theorem sX9_sort_129 (lv : zL) (st : List Value) (w : zW) (nx K : Nat → zL → List Value → zW → Prop) (Rt : Option Value → zW → Prop) : z_st1 (tX9_sort 129) 129 lv st w nx K Rt = (z_2i st (fun x y r => nx 130 lv (.int (x + y) :: r) w)) := id rfl
theorem sX9_sort_130 (lv : zL) (st : List Value) (w : zW) (nx K : Nat → zL → List Value → zW → Prop) (Rt : Option Value → zW → Prop) : z_st1 (tX9_sort 130) 130 lv st w nx K Rt = (z_1i st (fun x r => z_ok1 lv 2 = true ∧ nx 131 (lv.set 2 (some (.int x))) r w)) := id rfl
theorem sX9_sort_131 (lv : zL) (st : List Value) (w : zW) (nx K : Nat → zL → List Value → zW → Prop) (Rt : Option Value → zW → Prop) : z_st1 (tX9_sort 131) 131 lv st w nx K Rt = (z_li lv 3 (fun x => z_ok1 lv 3 = true ∧ nx 134 (lv.set 3 (some (.int (x + (1 : Int32))))) st w)) := id rfl
theorem sX9_sort_134 (lv : zL) (st : List Value) (w : zW) (nx K : Nat → zL → List Value → zW → Prop) (Rt : Option Value → zW → Prop) : z_st1 (tX9_sort 134) 134 lv st w nx K Rt = (nx 39 lv st w) := id rfl
theorem sX9_sort_137 (lv : zL) (st : List Value) (w : zW) (nx K : Nat → zL → List Value → zW → Prop) (Rt : Option Value → zW → Prop) : z_st1 (tX9_sort 137) 137 lv st w nx K Rt = (z_la lv 0 (fun x => nx 138 lv (.ref x :: st) w)) := id rfl
theorem sX9_sort_138 (lv : zL) (st : List Value) (w : zW) (nx K : Nat → zL → List Value → zW → Prop) (Rt : Option Value → zW → Prop) : z_st1 (tX9_sort 138) 138 lv st w nx K Rt = (z_li lv 1 (fun x => nx 139 lv (.int x :: st) w)) := id rfl
theorem sX9_sort_139 (lv : zL) (st : List Value) (w : zW) (nx K : Nat → zL → List Value → zW → Prop) (Rt : Option Value → zW → Prop) : z_st1 (tX9_sort 139) 139 lv st w nx K Rt = (z_1i st (fun x r => (¬ x = 0 → nx 146 lv r w) ∧ (x = 0 → nx 142 lv r w))) := id rfl
theorem sX9_sort_142 (lv : zL) (st : List Value) (w : zW) (nx K : Nat → zL → List Value → zW → Prop) (Rt : Option Value → zW → Prop) : z_st1 (tX9_sort 142) 142 lv st w nx K Rt = (nx 143 lv (.int (1 : Int32) :: st) w) := id rfl
theorem sX9_sort_143 (lv : zL) (st : List Value) (w : zW) (nx K : Nat → zL → List Value → zW → Prop) (Rt : Option Value → zW → Prop) : z_st1 (tX9_sort 143) 143 lv st w nx K Rt = (nx 147 lv st w) := id rfl
theorem sX9_sort_146 (lv : zL) (st : List Value) (w : zW) (nx K : Nat → zL → List Value → zW → Prop) (Rt : Option Value → zW → Prop) : z_st1 (tX9_sort 146) 146 lv st w nx K Rt = (nx 147 lv (.int (0 : Int32) :: st) w) := id rfl
theorem sX9_sort_150 (lv : zL) (st : List Value) (w : zW) (nx K : Nat → zL → List Value → zW → Prop) (Rt : Option Value → zW → Prop) : z_st1 (tX9_sort 150) 150 lv st w nx K Rt = (z_la lv 0 (fun x => nx 151 lv (.ref x :: st) w)) := id rfl
theorem sX9_sort_154 (lv : zL) (st : List Value) (w : zW) (nx K : Nat → zL → List Value → zW → Prop) (Rt : Option Value → zW → Prop) : z_st1 (tX9_sort 154) 154 lv st w nx K Rt = (z_1i st (fun x r => z_ok1 lv 3 = true ∧ nx 155 (lv.set 3 (some (.int x))) r w)) := id rfl
theorem sX9_sort_155 (lv : zL) (st : List Value) (w : zW) (nx K : Nat → zL → List Value → zW → Prop) (Rt : Option Value → zW → Prop) : z_st1 (tX9_sort 155) 155 lv st w nx K Rt = (nx 156 lv (.int (0 : Int32) :: st) w) := id rfl
theorem sX9_sort_156 (lv : zL) (st : List Value) (w : zW) (nx K : Nat → zL → List Value → zW → Prop) (Rt : Option Value → zW → Prop) : z_st1 (tX9_sort 156) 156 lv st w nx K Rt = (z_1i st (fun x r => z_ok1 lv 4 = true ∧ nx 158 (lv.set 4 (some (.int x))) r w)) := id rfl
theorem sX9_sort_158 (lv : zL) (st : List Value) (w : zW) (nx K : Nat → zL → List Value → zW → Prop) (Rt : Option Value → zW → Prop) : z_st1 (tX9_sort 158) 158 lv st w nx K Rt = (nx 159 lv (.int (0 : Int32) :: st) w) := id rfl
theorem sX9_sort_159 (lv : zL) (st : List Value) (w : zW) (nx K : Nat → zL → List Value → zW → Prop) (Rt : Option Value → zW → Prop) : z_st1 (tX9_sort 159) 159 lv st w nx K Rt = (z_1i st (fun x r => z_ok1 lv 5 = true ∧ nx 161 (lv.set 5 (some (.int x))) r w)) := id rfl
theorem sX9_sort_161 (lv : zL) (st : List Value) (w : zW) (nx K : Nat → zL → List Value → zW → Prop) (Rt : Option Value → zW → Prop) : z_st1 (tX9_sort 161) 161 lv st w nx K Rt = (z_li lv 5 (fun x => nx 163 lv (.int x :: st) w)) := id rfl
theorem sX9_sort_163 (lv : zL) (st : List Value) (w : zW) (nx K : Nat → zL → List Value → zW → Prop) (Rt : Option Value → zW → Prop) : z_st1 (tX9_sort 163) 163 lv st w nx K Rt = (z_la lv 0 (fun x => nx 164 lv (.ref x :: st) w)) := id rfl
theorem sX9_sort_164 (lv : zL) (st : List Value) (w : zW) (nx K : Nat → zL → List Value → zW → Prop) (Rt : Option Value → zW → Prop) : z_st1 (tX9_sort 164) 164 lv st w nx K Rt = (z_1a st (fun x r => z_ob w x 10 (fun fs => z_fl fs 31 (fun u => nx 167 lv (u :: r) w)))) := id rfl
theorem sX9_sort_167 (lv : zL) (st : List Value) (w : zW) (nx K : Nat → zL → List Value → zW → Prop) (Rt : Option Value → zW → Prop) : z_st1 (tX9_sort 167) 167 lv st w nx K Rt = (z_2i st (fun x y r => (y ≤ x → nx 223 lv r w) ∧ (¬ y ≤ x → nx 170 lv r w))) := id rfl
theorem sX9_sort_170 (lv : zL) (st : List Value) (w : zW) (nx K : Nat → zL → List Value → zW → Prop) (Rt : Option Value → zW → Prop) : z_st1 (tX9_sort 170) 170 lv st w nx K Rt = (z_la lv 0 (fun x => nx 171 lv (.ref x :: st) w)) := id rfl
theorem sX9_sort_171 (lv : zL) (st : List Value) (w : zW) (nx K : Nat → zL → List Value → zW → Prop) (Rt : Option Value → zW → Prop) : z_st1 (tX9_sort 171) 171 lv st w nx K Rt = (nx 172 lv (.int (1 : Int32) :: st) w) := id rfl
theorem sX9_sort_172 (lv : zL) (st : List Value) (w : zW) (nx K : Nat → zL → List Value → zW → Prop) (Rt : Option Value → zW → Prop) : z_st1 (tX9_sort 172) 172 lv st w nx K Rt = (z_la lv 0 (fun x => nx 173 lv (.ref x :: st) w)) := id rfl
theorem sX9_sort_173 (lv : zL) (st : List Value) (w : zW) (nx K : Nat → zL → List Value → zW → Prop) (Rt : Option Value → zW → Prop) : z_st1 (tX9_sort 173) 173 lv st w nx K Rt = (z_1a st (fun x r => z_ob w x 10 (fun fs => z_fl fs 29 (fun u => nx 176 lv (u :: r) w)))) := id rfl
theorem sX9_sort_176 (lv : zL) (st : List Value) (w : zW) (nx K : Nat → zL → List Value → zW → Prop) (Rt : Option Value → zW → Prop) : z_st1 (tX9_sort 176) 176 lv st w nx K Rt = (z_li lv 5 (fun x => nx 178 lv (.int x :: st) w)) := id rfl
theorem sX9_sort_178 (lv : zL) (st : List Value) (w : zW) (nx K : Nat → zL → List Value → zW → Prop) (Rt : Option Value → zW → Prop) : z_st1 (tX9_sort 178) 178 lv st w nx K Rt = (z_ia st (fun x i r => z_ar0 w x (fun m g => vp_in i m ∧ nx 179 lv (.int (g i.toNatClampNeg) :: r) w))) := id rfl
theorem sX9_sort_182 (lv : zL) (st : List Value) (w : zW) (nx K : Nat → zL → List Value → zW → Prop) (Rt : Option Value → zW → Prop) : z_st1 (tX9_sort 182) 182 lv st w nx K Rt = (z_1i st (fun x r => z_ok1 lv 6 = true ∧ nx 184 (lv.set 6 (some (.int x))) r w)) := id rfl
theorem sX9_sort_184 (lv : zL) (st : List Value) (w : zW) (nx K : Nat → zL → List Value → zW → Prop) (Rt : Option Value → zW → Prop) : z_st1 (tX9_sort 184) 184 lv st w nx K Rt = (z_li lv 6 (fun x => nx 186 lv (.int x :: st) w)) := id rfl
theorem sX9_sort_186 (lv : zL) (st : List Value) (w : zW) (nx K : Nat → zL → List Value → zW → Prop) (Rt : Option Value → zW → Prop) : z_st1 (tX9_sort 186) 186 lv st w nx K Rt = (z_1i st (fun x r => (0 ≤ x → nx 196 lv r w) ∧ (¬ 0 ≤ x → nx 189 lv r w))) := id rfl
theorem sX9_sort_189 (lv : zL) (st : List Value) (w : zW) (nx K : Nat → zL → List Value → zW → Prop) (Rt : Option Value → zW → Prop) : z_st1 (tX9_sort 189) 189 lv st w nx K Rt = (z_la lv 0 (fun x => nx 190 lv (.ref x :: st) w)) := id rfl
theorem sX9_sort_190 (lv : zL) (st : List Value) (w : zW) (nx K : Nat → zL → List Value → zW → Prop) (Rt : Option Value → zW → Prop) : z_st1 (tX9_sort 190) 190 lv st w nx K Rt = (nx 191 lv (.int (1 : Int32) :: st) w) := id rfl
theorem sX9_sort_191 (lv : zL) (st : List Value) (w : zW) (nx K : Nat → zL → List Value → zW → Prop) (Rt : Option Value → zW → Prop) : z_st1 (tX9_sort 191) 191 lv st w nx K Rt = (z_ia st (fun x i r => z_ob w x 10 (fun fs => 0 < fs.length ∧ nx 194 lv r (z_up w x (.inr (10, fs.set 0 (.int i))))))) := id rfl
theorem sX9_sort_194 (lv : zL) (st : List Value) (w : zW) (nx K : Nat → zL → List Value → zW → Prop) (Rt : Option Value → zW → Prop) : z_st1 (tX9_sort 194) 194 lv st w nx K Rt = (nx 195 lv (.int (0 : Int32) :: st) w) := id rfl
theorem sX9_sort_195 (lv : zL) (st : List Value) (w : zW) (nx K : Nat → zL → List Value → zW → Prop) (Rt : Option Value → zW → Prop) : z_st1 (tX9_sort 195) 195 lv st w nx K Rt = (z_e1 st (fun x => Rt (some (.int x)) w)) := id rfl
theorem sX9_sort_196 (lv : zL) (st : List Value) (w : zW) (nx K : Nat → zL → List Value → zW → Prop) (Rt : Option Value → zW → Prop) : z_st1 (tX9_sort 196) 196 lv st w nx K Rt = (z_la lv 0 (fun x => nx 197 lv (.ref x :: st) w)) := id rfl
theorem sX9_sort_197 (lv : zL) (st : List Value) (w : zW) (nx K : Nat → zL → List Value → zW → Prop) (Rt : Option Value → zW → Prop) : z_st1 (tX9_sort 197) 197 lv st w nx K Rt = (z_1a st (fun x r => z_ob w x 10 (fun fs => z_fl fs 29 (fun u => nx 200 lv (u :: r) w)))) := id rfl
theorem sX9_sort_200 (lv : zL) (st : List Value) (w : zW) (nx K : Nat → zL → List Value → zW → Prop) (Rt : Option Value → zW → Prop) : z_st1 (tX9_sort 200) 200 lv st w nx K Rt = (z_li lv 4 (fun x => nx 202 lv (.int x :: st) w)) := id rfl
theorem sX9_sort_202 (lv : zL) (st : List Value) (w : zW) (nx K : Nat → zL → List Value → zW → Prop) (Rt : Option Value → zW → Prop) : z_st1 (tX9_sort 202) 202 lv st w nx K Rt = (z_la lv 0 (fun x => nx 203 lv (.ref x :: st) w)) := id rfl
theorem sX9_sort_203 (lv : zL) (st : List Value) (w : zW) (nx K : Nat → zL → List Value → zW → Prop) (Rt : Option Value → zW → Prop) : z_st1 (tX9_sort 203) 203 lv st w nx K Rt = (z_1a st (fun x r => z_ob w x 10 (fun fs => z_fl fs 29 (fun u => nx 206 lv (u :: r) w)))) := id rfl
theorem sX9_sort_206 (lv : zL) (st : List Value) (w : zW) (nx K : Nat → zL → List Value → zW → Prop) (Rt : Option Value → zW → Prop) : z_st1 (tX9_sort 206) 206 lv st w nx K Rt = (z_li lv 5 (fun x => nx 208 lv (.int x :: st) w)) := id rfl
theorem sX9_sort_208 (lv : zL) (st : List Value) (w : zW) (nx K : Nat → zL → List Value → zW → Prop) (Rt : Option Value → zW → Prop) : z_st1 (tX9_sort 208) 208 lv st w nx K Rt = (z_ia st (fun x i r => z_ar0 w x (fun m g => vp_in i m ∧ nx 209 lv (.int (g i.toNatClampNeg) :: r) w))) := id rfl
theorem sX9_sort_209 (lv : zL) (st : List Value) (w : zW) (nx K : Nat → zL → List Value → zW → Prop) (Rt : Option Value → zW → Prop) : z_st1 (tX9_sort 209) 209 lv st w nx K Rt = (z_iia st (fun x i u r => z_ar0 w x (fun m g => vp_in i m ∧ nx 210 lv r (z_up w x (.inl (0, m, .inl (upd g i.toNatClampNeg u))))))) := id rfl
theorem sX9_sort_210 (lv : zL) (st : List Value) (w : zW) (nx K : Nat → zL → List Value → zW → Prop) (Rt : Option Value → zW → Prop) : z_st1 (tX9_sort 210) 210 lv st w nx K Rt = (z_li lv 4 (fun x => nx 212 lv (.int x :: st) w)) := id rfl
theorem sX9_sort_212 (lv : zL) (st : List Value) (w : zW) (nx K : Nat → zL → List Value → zW → Prop) (Rt : Option Value → zW → Prop) : z_st1 (tX9_sort 212) 212 lv st w nx K Rt = (z_li lv 6 (fun x => nx 214 lv (.int x :: st) w)) := id rfl
theorem sX9_sort_214 (lv : zL) (st : List Value) (w : zW) (nx K : Nat → zL → List Value → zW → Prop) (Rt : Option Value → zW → Prop) : z_st1 (tX9_sort 214) 214 lv st w nx K Rt = (z_2i st (fun x y r => nx 215 lv (.int (x + y) :: r) w)) := id rfl
theorem sX9_sort_215 (lv : zL) (st : List Value) (w : zW) (nx K : Nat → zL → List Value → zW → Prop) (Rt : Option Value → zW → Prop) : z_st1 (tX9_sort 215) 215 lv st w nx K Rt = (z_1i st (fun x r => z_ok1 lv 4 = true ∧ nx 217 (lv.set 4 (some (.int x))) r w)) := id rfl
theorem sX9_sort_217 (lv : zL) (st : List Value) (w : zW) (nx K : Nat → zL → List Value → zW → Prop) (Rt : Option Value → zW → Prop) : z_st1 (tX9_sort 217) 217 lv st w nx K Rt = (z_li lv 5 (fun x => z_ok1 lv 5 = true ∧ nx 220 (lv.set 5 (some (.int (x + (1 : Int32))))) st w)) := id rfl
theorem sX9_sort_220 (lv : zL) (st : List Value) (w : zW) (nx K : Nat → zL → List Value → zW → Prop) (Rt : Option Value → zW → Prop) : z_st1 (tX9_sort 220) 220 lv st w nx K Rt = (nx 161 lv st w) := id rfl
theorem sX9_sort_223 (lv : zL) (st : List Value) (w : zW) (nx K : Nat → zL → List Value → zW → Prop) (Rt : Option Value → zW → Prop) : z_st1 (tX9_sort 223) 223 lv st w nx K Rt = (z_la lv 0 (fun x => nx 224 lv (.ref x :: st) w)) := id rfl
theorem sX9_sort_224 (lv : zL) (st : List Value) (w : zW) (nx K : Nat → zL → List Value → zW → Prop) (Rt : Option Value → zW → Prop) : z_st1 (tX9_sort 224) 224 lv st w nx K Rt = (z_1a st (fun x r => z_ob w x 10 (fun fs => z_fl fs 35 (fun u => nx 227 lv (u :: r) w)))) := id rfl
theorem sX9_sort_227 (lv : zL) (st : List Value) (w : zW) (nx K : Nat → zL → List Value → zW → Prop) (Rt : Option Value → zW → Prop) : z_st1 (tX9_sort 227) 227 lv st w nx K Rt = (nx 229 lv (.int (8 : Int32) :: st) w) := id rfl
theorem sX9_sort_229 (lv : zL) (st : List Value) (w : zW) (nx K : Nat → zL → List Value → zW → Prop) (Rt : Option Value → zW → Prop) : z_st1 (tX9_sort 229) 229 lv st w nx K Rt = (z_la lv 0 (fun x => nx 230 lv (.ref x :: st) w)) := id rfl
theorem sX9_sort_230 (lv : zL) (st : List Value) (w : zW) (nx K : Nat → zL → List Value → zW → Prop) (Rt : Option Value → zW → Prop) : z_st1 (tX9_sort 230) 230 lv st w nx K Rt = (z_1a st (fun x r => z_ob w x 10 (fun fs => z_fl fs 31 (fun u => nx 233 lv (u :: r) w)))) := id rfl
theorem sX9_sort_233 (lv : zL) (st : List Value) (w : zW) (nx K : Nat → zL → List Value → zW → Prop) (Rt : Option Value → zW → Prop) : z_st1 (tX9_sort 233) 233 lv st w nx K Rt = (z_li lv 4 (fun x => nx 235 lv (.int x :: st) w)) := id rfl
theorem sX9_sort_235 (lv : zL) (st : List Value) (w : zW) (nx K : Nat → zL → List Value → zW → Prop) (Rt : Option Value → zW → Prop) : z_st1 (tX9_sort 235) 235 lv st w nx K Rt = (z_2i st (fun x y r => nx 236 lv (.int (x - y) :: r) w)) := id rfl
theorem sX9_sort_236 (lv : zL) (st : List Value) (w : zW) (nx K : Nat → zL → List Value → zW → Prop) (Rt : Option Value → zW → Prop) : z_st1 (tX9_sort 236) 236 lv st w nx K Rt = (z_iia st (fun x i u r => z_ar0 w x (fun m g => vp_in i m ∧ nx 237 lv r (z_up w x (.inl (0, m, .inl (upd g i.toNatClampNeg u))))))) := id rfl
theorem sX9_sort_237 (lv : zL) (st : List Value) (w : zW) (nx K : Nat → zL → List Value → zW → Prop) (Rt : Option Value → zW → Prop) : z_st1 (tX9_sort 237) 237 lv st w nx K Rt = (z_la lv 0 (fun x => nx 238 lv (.ref x :: st) w)) := id rfl
theorem sX9_sort_238 (lv : zL) (st : List Value) (w : zW) (nx K : Nat → zL → List Value → zW → Prop) (Rt : Option Value → zW → Prop) : z_st1 (tX9_sort 238) 238 lv st w nx K Rt = (z_1a st (fun x r => z_ob w x 10 (fun fs => z_fl fs 35 (fun u => nx 241 lv (u :: r) w)))) := id rfl
theorem sX9_sort_241 (lv : zL) (st : List Value) (w : zW) (nx K : Nat → zL → List Value → zW → Prop) (Rt : Option Value → zW → Prop) : z_st1 (tX9_sort 241) 241 lv st w nx K Rt = (nx 243 lv (.int (7 : Int32) :: st) w) := id rfl
theorem sX9_sort_243 (lv : zL) (st : List Value) (w : zW) (nx K : Nat → zL → List Value → zW → Prop) (Rt : Option Value → zW → Prop) : z_st1 (tX9_sort 243) 243 lv st w nx K Rt = (z_li lv 3 (fun x => nx 244 lv (.int x :: st) w)) := id rfl
theorem sX9_sort_244 (lv : zL) (st : List Value) (w : zW) (nx K : Nat → zL → List Value → zW → Prop) (Rt : Option Value → zW → Prop) : z_st1 (tX9_sort 244) 244 lv st w nx K Rt = (z_iia st (fun x i u r => z_ar0 w x (fun m g => vp_in i m ∧ nx 245 lv r (z_up w x (.inl (0, m, .inl (upd g i.toNatClampNeg u))))))) := id rfl
theorem sX9_sort_245 (lv : zL) (st : List Value) (w : zW) (nx K : Nat → zL → List Value → zW → Prop) (Rt : Option Value → zW → Prop) : z_st1 (tX9_sort 245) 245 lv st w nx K Rt = (z_la lv 0 (fun x => nx 246 lv (.ref x :: st) w)) := id rfl
theorem sX9_sort_246 (lv : zL) (st : List Value) (w : zW) (nx K : Nat → zL → List Value → zW → Prop) (Rt : Option Value → zW → Prop) : z_st1 (tX9_sort 246) 246 lv st w nx K Rt = (z_1a st (fun x r => z_ob w x 10 (fun fs => z_fl fs 35 (fun u => nx 249 lv (u :: r) w)))) := id rfl
theorem sX9_sort_249 (lv : zL) (st : List Value) (w : zW) (nx K : Nat → zL → List Value → zW → Prop) (Rt : Option Value → zW → Prop) : z_st1 (tX9_sort 249) 249 lv st w nx K Rt = (nx 251 lv (.int (6 : Int32) :: st) w) := id rfl
theorem sX9_sort_251 (lv : zL) (st : List Value) (w : zW) (nx K : Nat → zL → List Value → zW → Prop) (Rt : Option Value → zW → Prop) : z_st1 (tX9_sort 251) 251 lv st w nx K Rt = (z_li lv 2 (fun x => nx 252 lv (.int x :: st) w)) := id rfl
theorem sX9_sort_252 (lv : zL) (st : List Value) (w : zW) (nx K : Nat → zL → List Value → zW → Prop) (Rt : Option Value → zW → Prop) : z_st1 (tX9_sort 252) 252 lv st w nx K Rt = (z_iia st (fun x i u r => z_ar0 w x (fun m g => vp_in i m ∧ nx 253 lv r (z_up w x (.inl (0, m, .inl (upd g i.toNatClampNeg u))))))) := id rfl
theorem sX9_sort_253 (lv : zL) (st : List Value) (w : zW) (nx K : Nat → zL → List Value → zW → Prop) (Rt : Option Value → zW → Prop) : z_st1 (tX9_sort 253) 253 lv st w nx K Rt = (z_la lv 0 (fun x => nx 254 lv (.ref x :: st) w)) := id rfl
theorem sX9_sort_254 (lv : zL) (st : List Value) (w : zW) (nx K : Nat → zL → List Value → zW → Prop) (Rt : Option Value → zW → Prop) : z_st1 (tX9_sort 254) 254 lv st w nx K Rt = (z_1a st (fun x r => z_ob w x 10 (fun fs => z_fl fs 35 (fun u => nx 257 lv (u :: r) w)))) := id rfl
theorem sX9_sort_257 (lv : zL) (st : List Value) (w : zW) (nx K : Nat → zL → List Value → zW → Prop) (Rt : Option Value → zW → Prop) : z_st1 (tX9_sort 257) 257 lv st w nx K Rt = (nx 258 lv (.int (4 : Int32) :: st) w) := id rfl
theorem sX9_sort_258 (lv : zL) (st : List Value) (w : zW) (nx K : Nat → zL → List Value → zW → Prop) (Rt : Option Value → zW → Prop) : z_st1 (tX9_sort 258) 258 lv st w nx K Rt = (z_la lv 0 (fun x => nx 259 lv (.ref x :: st) w)) := id rfl
theorem sX9_sort_259 (lv : zL) (st : List Value) (w : zW) (nx K : Nat → zL → List Value → zW → Prop) (Rt : Option Value → zW → Prop) : z_st1 (tX9_sort 259) 259 lv st w nx K Rt = (z_1a st (fun x r => z_ob w x 10 (fun fs => z_fl fs 30 (fun u => nx 262 lv (u :: r) w)))) := id rfl
theorem sX9_sort_262 (lv : zL) (st : List Value) (w : zW) (nx K : Nat → zL → List Value → zW → Prop) (Rt : Option Value → zW → Prop) : z_st1 (tX9_sort 262) 262 lv st w nx K Rt = (z_la lv 0 (fun x => nx 263 lv (.ref x :: st) w)) := id rfl
theorem sX9_sort_263 (lv : zL) (st : List Value) (w : zW) (nx K : Nat → zL → List Value → zW → Prop) (Rt : Option Value → zW → Prop) : z_st1 (tX9_sort 263) 263 lv st w nx K Rt = (z_1a st (fun x r => z_ob w x 10 (fun fs => z_fl fs 1 (fun u => nx 266 lv (u :: r) w)))) := id rfl
theorem sX9_sort_266 (lv : zL) (st : List Value) (w : zW) (nx K : Nat → zL → List Value → zW → Prop) (Rt : Option Value → zW → Prop) : z_st1 (tX9_sort 266) 266 lv st w nx K Rt = (z_2i st (fun x y r => nx 267 lv (.int (x + y) :: r) w)) := id rfl
theorem sX9_sort_267 (lv : zL) (st : List Value) (w : zW) (nx K : Nat → zL → List Value → zW → Prop) (Rt : Option Value → zW → Prop) : z_st1 (tX9_sort 267) 267 lv st w nx K Rt = (nx 268 lv (.int (1 : Int32) :: st) w) := id rfl
theorem sX9_sort_268 (lv : zL) (st : List Value) (w : zW) (nx K : Nat → zL → List Value → zW → Prop) (Rt : Option Value → zW → Prop) : z_st1 (tX9_sort 268) 268 lv st w nx K Rt = (z_2i st (fun x y r => nx 269 lv (.int (x - y) :: r) w)) := id rfl
theorem sX9_sort_269 (lv : zL) (st : List Value) (w : zW) (nx K : Nat → zL → List Value → zW → Prop) (Rt : Option Value → zW → Prop) : z_st1 (tX9_sort 269) 269 lv st w nx K Rt = (z_la lv 0 (fun x => nx 270 lv (.ref x :: st) w)) := id rfl
theorem sX9_sort_270 (lv : zL) (st : List Value) (w : zW) (nx K : Nat → zL → List Value → zW → Prop) (Rt : Option Value → zW → Prop) : z_st1 (tX9_sort 270) 270 lv st w nx K Rt = (z_1a st (fun x r => z_ob w x 10 (fun fs => z_fl fs 1 (fun u => nx 273 lv (u :: r) w)))) := id rfl
theorem sX9_sort_273 (lv : zL) (st : List Value) (w : zW) (nx K : Nat → zL → List Value → zW → Prop) (Rt : Option Value → zW → Prop) : z_st1 (tX9_sort 273) 273 lv st w nx K Rt = (z_2i st (fun x y r => ¬ y = 0 ∧ nx 274 lv (.int (x / y) :: r) w)) := id rfl
theorem sX9_sort_274 (lv : zL) (st : List Value) (w : zW) (nx K : Nat → zL → List Value → zW → Prop) (Rt : Option Value → zW → Prop) : z_st1 (tX9_sort 274) 274 lv st w nx K Rt = (z_iia st (fun x i u r => z_ar0 w x (fun m g => vp_in i m ∧ nx 275 lv r (z_up w x (.inl (0, m, .inl (upd g i.toNatClampNeg u))))))) := id rfl
theorem sX9_sort_275 (lv : zL) (st : List Value) (w : zW) (nx K : Nat → zL → List Value → zW → Prop) (Rt : Option Value → zW → Prop) : z_st1 (tX9_sort 275) 275 lv st w nx K Rt = (z_la lv 0 (fun x => nx 276 lv (.ref x :: st) w)) := id rfl
theorem sX9_sort_276 (lv : zL) (st : List Value) (w : zW) (nx K : Nat → zL → List Value → zW → Prop) (Rt : Option Value → zW → Prop) : z_st1 (tX9_sort 276) 276 lv st w nx K Rt = (z_1a st (fun x r => z_ob w x 10 (fun fs => z_fl fs 35 (fun u => nx 279 lv (u :: r) w)))) := id rfl
theorem sX9_sort_279 (lv : zL) (st : List Value) (w : zW) (nx K : Nat → zL → List Value → zW → Prop) (Rt : Option Value → zW → Prop) : z_st1 (tX9_sort 279) 279 lv st w nx K Rt = (nx 280 lv (.int (5 : Int32) :: st) w) := id rfl
theorem sX9_sort_280 (lv : zL) (st : List Value) (w : zW) (nx K : Nat → zL → List Value → zW → Prop) (Rt : Option Value → zW → Prop) : z_st1 (tX9_sort 280) 280 lv st w nx K Rt = (nx 281 lv (.int (0 : Int32) :: st) w) := id rfl
theorem sX9_sort_281 (lv : zL) (st : List Value) (w : zW) (nx K : Nat → zL → List Value → zW → Prop) (Rt : Option Value → zW → Prop) : z_st1 (tX9_sort 281) 281 lv st w nx K Rt = (z_iia st (fun x i u r => z_ar0 w x (fun m g => vp_in i m ∧ nx 282 lv r (z_up w x (.inl (0, m, .inl (upd g i.toNatClampNeg u))))))) := id rfl
theorem sX9_sort_282 (lv : zL) (st : List Value) (w : zW) (nx K : Nat → zL → List Value → zW → Prop) (Rt : Option Value → zW → Prop) : z_st1 (tX9_sort 282) 282 lv st w nx K Rt = (z_la lv 0 (fun x => nx 283 lv (.ref x :: st) w)) := id rfl
theorem sX9_sort_283 (lv : zL) (st : List Value) (w : zW) (nx K : Nat → zL → List Value → zW → Prop) (Rt : Option Value → zW → Prop) : z_st1 (tX9_sort 283) 283 lv st w nx K Rt = (z_1a st (fun x r => z_ob w x 10 (fun fs => z_fl fs 35 (fun u => nx 286 lv (u :: r) w)))) := id rfl
theorem sX9_sort_286 (lv : zL) (st : List Value) (w : zW) (nx K : Nat → zL → List Value → zW → Prop) (Rt : Option Value → zW → Prop) : z_st1 (tX9_sort 286) 286 lv st w nx K Rt = (nx 287 lv (.int (4 : Int32) :: st) w) := id rfl
theorem sX9_sort_287 (lv : zL) (st : List Value) (w : zW) (nx K : Nat → zL → List Value → zW → Prop) (Rt : Option Value → zW → Prop) : z_st1 (tX9_sort 287) 287 lv st w nx K Rt = (z_ia st (fun x i r => z_ar0 w x (fun m g => vp_in i m ∧ nx 288 lv (.int (g i.toNatClampNeg) :: r) w))) := id rfl
theorem sX9_sort_288 (lv : zL) (st : List Value) (w : zW) (nx K : Nat → zL → List Value → zW → Prop) (Rt : Option Value → zW → Prop) : z_st1 (tX9_sort 288) 288 lv st w nx K Rt = (z_1i st (fun x r => z_ok1 lv 5 = true ∧ nx 290 (lv.set 5 (some (.int x))) r w)) := id rfl
theorem sX9_sort_290 (lv : zL) (st : List Value) (w : zW) (nx K : Nat → zL → List Value → zW → Prop) (Rt : Option Value → zW → Prop) : z_st1 (tX9_sort 290) 290 lv st w nx K Rt = (z_li lv 5 (fun x => nx 292 lv (.int x :: st) w)) := id rfl
theorem sX9_sort_292 (lv : zL) (st : List Value) (w : zW) (nx K : Nat → zL → List Value → zW → Prop) (Rt : Option Value → zW → Prop) : z_st1 (tX9_sort 292) 292 lv st w nx K Rt = (nx 293 lv (.int (1 : Int32) :: st) w) := id rfl
theorem sX9_sort_293 (lv : zL) (st : List Value) (w : zW) (nx K : Nat → zL → List Value → zW → Prop) (Rt : Option Value → zW → Prop) : z_st1 (tX9_sort 293) 293 lv st w nx K Rt = (z_2i st (fun x y r => (x ≤ y → nx 325 lv r w) ∧ (¬ x ≤ y → nx 296 lv r w))) := id rfl
theorem sX9_sort_296 (lv : zL) (st : List Value) (w : zW) (nx K : Nat → zL → List Value → zW → Prop) (Rt : Option Value → zW → Prop) : z_st1 (tX9_sort 296) 296 lv st w nx K Rt = (z_la lv 0 (fun x => nx 297 lv (.ref x :: st) w)) := id rfl
theorem sX9_sort_297 (lv : zL) (st : List Value) (w : zW) (nx K : Nat → zL → List Value → zW → Prop) (Rt : Option Value → zW → Prop) : z_st1 (tX9_sort 297) 297 lv st w nx K Rt = (z_1a st (fun x r => z_ob w x 10 (fun fs => z_fl fs 35 (fun u => nx 300 lv (u :: r) w)))) := id rfl
theorem sX9_sort_300 (lv : zL) (st : List Value) (w : zW) (nx K : Nat → zL → List Value → zW → Prop) (Rt : Option Value → zW → Prop) : z_st1 (tX9_sort 300) 300 lv st w nx K Rt = (nx 301 lv (.int (5 : Int32) :: st) w) := id rfl
theorem sX9_sort_301 (lv : zL) (st : List Value) (w : zW) (nx K : Nat → zL → List Value → zW → Prop) (Rt : Option Value → zW → Prop) : z_st1 (tX9_sort 301) 301 lv st w nx K Rt = (z_dia st (fun x i r => nx 302 lv (.int i :: .ref x :: .int i :: .ref x :: r) w)) := id rfl
theorem sX9_sort_302 (lv : zL) (st : List Value) (w : zW) (nx K : Nat → zL → List Value → zW → Prop) (Rt : Option Value → zW → Prop) : z_st1 (tX9_sort 302) 302 lv st w nx K Rt = (z_ia st (fun x i r => z_ar0 w x (fun m g => vp_in i m ∧ nx 303 lv (.int (g i.toNatClampNeg) :: r) w))) := id rfl
theorem sX9_sort_303 (lv : zL) (st : List Value) (w : zW) (nx K : Nat → zL → List Value → zW → Prop) (Rt : Option Value → zW → Prop) : z_st1 (tX9_sort 303) 303 lv st w nx K Rt = (nx 304 lv (.int (1 : Int32) :: st) w) := id rfl
theorem sX9_sort_304 (lv : zL) (st : List Value) (w : zW) (nx K : Nat → zL → List Value → zW → Prop) (Rt : Option Value → zW → Prop) : z_st1 (tX9_sort 304) 304 lv st w nx K Rt = (z_2i st (fun x y r => nx 305 lv (.int (x + y) :: r) w)) := id rfl
theorem sX9_sort_305 (lv : zL) (st : List Value) (w : zW) (nx K : Nat → zL → List Value → zW → Prop) (Rt : Option Value → zW → Prop) : z_st1 (tX9_sort 305) 305 lv st w nx K Rt = (z_iia st (fun x i u r => z_ar0 w x (fun m g => vp_in i m ∧ nx 306 lv r (z_up w x (.inl (0, m, .inl (upd g i.toNatClampNeg u))))))) := id rfl
theorem sX9_sort_306 (lv : zL) (st : List Value) (w : zW) (nx K : Nat → zL → List Value → zW → Prop) (Rt : Option Value → zW → Prop) : z_st1 (tX9_sort 306) 306 lv st w nx K Rt = (z_li lv 5 (fun x => nx 308 lv (.int x :: st) w)) := id rfl
theorem sX9_sort_308 (lv : zL) (st : List Value) (w : zW) (nx K : Nat → zL → List Value → zW → Prop) (Rt : Option Value → zW → Prop) : z_st1 (tX9_sort 308) 308 lv st w nx K Rt = (z_la lv 0 (fun x => nx 309 lv (.ref x :: st) w)) := id rfl
theorem sX9_sort_309 (lv : zL) (st : List Value) (w : zW) (nx K : Nat → zL → List Value → zW → Prop) (Rt : Option Value → zW → Prop) : z_st1 (tX9_sort 309) 309 lv st w nx K Rt = (z_1a st (fun x r => z_ob w x 10 (fun fs => z_fl fs 2 (fun u => nx 312 lv (u :: r) w)))) := id rfl
theorem sX9_sort_312 (lv : zL) (st : List Value) (w : zW) (nx K : Nat → zL → List Value → zW → Prop) (Rt : Option Value → zW → Prop) : z_st1 (tX9_sort 312) 312 lv st w nx K Rt = (z_2i st (fun x y r => nx 313 lv (.int (x + y) :: r) w)) := id rfl
theorem sX9_sort_313 (lv : zL) (st : List Value) (w : zW) (nx K : Nat → zL → List Value → zW → Prop) (Rt : Option Value → zW → Prop) : z_st1 (tX9_sort 313) 313 lv st w nx K Rt = (nx 314 lv (.int (1 : Int32) :: st) w) := id rfl
theorem sX9_sort_314 (lv : zL) (st : List Value) (w : zW) (nx K : Nat → zL → List Value → zW → Prop) (Rt : Option Value → zW → Prop) : z_st1 (tX9_sort 314) 314 lv st w nx K Rt = (z_2i st (fun x y r => nx 315 lv (.int (x - y) :: r) w)) := id rfl
theorem sX9_sort_315 (lv : zL) (st : List Value) (w : zW) (nx K : Nat → zL → List Value → zW → Prop) (Rt : Option Value → zW → Prop) : z_st1 (tX9_sort 315) 315 lv st w nx K Rt = (z_la lv 0 (fun x => nx 316 lv (.ref x :: st) w)) := id rfl
theorem sX9_sort_316 (lv : zL) (st : List Value) (w : zW) (nx K : Nat → zL → List Value → zW → Prop) (Rt : Option Value → zW → Prop) : z_st1 (tX9_sort 316) 316 lv st w nx K Rt = (z_1a st (fun x r => z_ob w x 10 (fun fs => z_fl fs 2 (fun u => nx 319 lv (u :: r) w)))) := id rfl
theorem sX9_sort_319 (lv : zL) (st : List Value) (w : zW) (nx K : Nat → zL → List Value → zW → Prop) (Rt : Option Value → zW → Prop) : z_st1 (tX9_sort 319) 319 lv st w nx K Rt = (z_2i st (fun x y r => ¬ y = 0 ∧ nx 320 lv (.int (x / y) :: r) w)) := id rfl
theorem sX9_sort_320 (lv : zL) (st : List Value) (w : zW) (nx K : Nat → zL → List Value → zW → Prop) (Rt : Option Value → zW → Prop) : z_st1 (tX9_sort 320) 320 lv st w nx K Rt = (z_1i st (fun x r => z_ok1 lv 5 = true ∧ nx 322 (lv.set 5 (some (.int x))) r w)) := id rfl
theorem sX9_sort_322 (lv : zL) (st : List Value) (w : zW) (nx K : Nat → zL → List Value → zW → Prop) (Rt : Option Value → zW → Prop) : z_st1 (tX9_sort 322) 322 lv st w nx K Rt = (nx 290 lv st w) := id rfl
theorem sX9_sort_325 (lv : zL) (st : List Value) (w : zW) (nx K : Nat → zL → List Value → zW → Prop) (Rt : Option Value → zW → Prop) : z_st1 (tX9_sort 325) 325 lv st w nx K Rt = (z_la lv 0 (fun x => nx 326 lv (.ref x :: st) w)) := id rfl
theorem sX9_sort_326 (lv : zL) (st : List Value) (w : zW) (nx K : Nat → zL → List Value → zW → Prop) (Rt : Option Value → zW → Prop) : z_st1 (tX9_sort 326) 326 lv st w nx K Rt = (z_li lv 4 (fun x => nx 328 lv (.int x :: st) w)) := id rfl
theorem sX9_sort_328 (lv : zL) (st : List Value) (w : zW) (nx K : Nat → zL → List Value → zW → Prop) (Rt : Option Value → zW → Prop) : z_st1 (tX9_sort 328) 328 lv st w nx K Rt = (z_ia st (fun x i r => z_ob w x 10 (fun fs => 31 < fs.length ∧ nx 331 lv r (z_up w x (.inr (10, fs.set 31 (.int i))))))) := id rfl
theorem sX9_sort_331 (lv : zL) (st : List Value) (w : zW) (nx K : Nat → zL → List Value → zW → Prop) (Rt : Option Value → zW → Prop) : z_st1 (tX9_sort 331) 331 lv st w nx K Rt = (z_la lv 0 (fun x => nx 332 lv (.ref x :: st) w)) := id rfl
theorem sX9_sort_332 (lv : zL) (st : List Value) (w : zW) (nx K : Nat → zL → List Value → zW → Prop) (Rt : Option Value → zW → Prop) : z_st1 (tX9_sort 332) 332 lv st w nx K Rt = (nx 333 lv (.int (0 : Int32) :: st) w) := id rfl
theorem sX9_sort_333 (lv : zL) (st : List Value) (w : zW) (nx K : Nat → zL → List Value → zW → Prop) (Rt : Option Value → zW → Prop) : z_st1 (tX9_sort 333) 333 lv st w nx K Rt = (z_ia st (fun x i r => z_ob w x 10 (fun fs => 22 < fs.length ∧ nx 336 lv r (z_up w x (.inr (10, fs.set 22 (.int i))))))) := id rfl
theorem sX9_sort_336 (lv : zL) (st : List Value) (w : zW) (nx K : Nat → zL → List Value → zW → Prop) (Rt : Option Value → zW → Prop) : z_st1 (tX9_sort 336) 336 lv st w nx K Rt = (z_la lv 0 (fun x => nx 337 lv (.ref x :: st) w)) := id rfl
theorem sX9_sort_340 (lv : zL) (st : List Value) (w : zW) (nx K : Nat → zL → List Value → zW → Prop) (Rt : Option Value → zW → Prop) : z_st1 (tX9_sort 340) 340 lv st w nx K Rt = (z_e1 st (fun x => Rt (some (.int x)) w)) := id rfl
theorem sX9_sort_54 (lv : zL) (st : List Value) (w : zW) (nx K : Nat → zL → List Value → zW → Prop) (Rt : Option Value → zW → Prop) : z_st1 (tX9_sort 54) 54 lv st w nx K Rt = K 54 lv st w := id rfl
theorem sX9_sort_64 (lv : zL) (st : List Value) (w : zW) (nx K : Nat → zL → List Value → zW → Prop) (Rt : Option Value → zW → Prop) : z_st1 (tX9_sort 64) 64 lv st w nx K Rt = K 64 lv st w := id rfl
theorem sX9_sort_78 (lv : zL) (st : List Value) (w : zW) (nx K : Nat → zL → List Value → zW → Prop) (Rt : Option Value → zW → Prop) : z_st1 (tX9_sort 78) 78 lv st w nx K Rt = K 78 lv st w := id rfl
theorem sX9_sort_147 (lv : zL) (st : List Value) (w : zW) (nx K : Nat → zL → List Value → zW → Prop) (Rt : Option Value → zW → Prop) : z_st1 (tX9_sort 147) 147 lv st w nx K Rt = K 147 lv st w := id rfl
theorem sX9_sort_151 (lv : zL) (st : List Value) (w : zW) (nx K : Nat → zL → List Value → zW → Prop) (Rt : Option Value → zW → Prop) : z_st1 (tX9_sort 151) 151 lv st w nx K Rt = K 151 lv st w := id rfl
theorem sX9_sort_179 (lv : zL) (st : List Value) (w : zW) (nx K : Nat → zL → List Value → zW → Prop) (Rt : Option Value → zW → Prop) : z_st1 (tX9_sort 179) 179 lv st w nx K Rt = K 179 lv st w := id rfl
theorem sX9_sort_337 (lv : zL) (st : List Value) (w : zW) (nx K : Nat → zL → List Value → zW → Prop) (Rt : Option Value → zW → Prop) : z_st1 (tX9_sort 337) 337 lv st w nx K Rt = K 337 lv st w := id rfl
theorem dX9_sort_54 : decode cX9_sort 54 = .ok (.invokevirtual 150, 3) := by decide +kernel
theorem dX9_sort_64 : decode cX9_sort 64 = .ok (.invokevirtual 154, 3) := by decide +kernel
theorem dX9_sort_78 : decode cX9_sort 78 = .ok (.invokevirtual 157, 3) := by decide +kernel
theorem dX9_sort_147 : decode cX9_sort 147 = .ok (.invokevirtual 161, 3) := by decide +kernel
theorem dX9_sort_151 : decode cX9_sort 151 = .ok (.invokevirtual 165, 3) := by decide +kernel
theorem dX9_sort_179 : decode cX9_sort 179 = .ok (.invokevirtual 157, 3) := by decide +kernel
theorem dX9_sort_337 : decode cX9_sort 337 = .ok (.invokevirtual 169, 3) := by decide +kernel

def tmX9_comes (pc : Nat) : zI := match pc with
  | 0 => (1, 0, 0, 1, 0)
  | 1 => (6, 0, 0, 2, 2)
  | 2 => (47, 10, 3, 5, 0)
  | 5 => (1, 0, 0, 6, 0)
  | 6 => (6, 0, 0, 7, 0)
  | 7 => (47, 10, 32, 10, 0)
  | 10 => (1, 0, 0, 11, 0)
  | 11 => (6, 0, 0, 12, (-1))
  | 12 => (47, 10, 33, 15, 0)
  | 15 => (1, 0, 0, 16, 0)
  | 16 => (46, 10, 31, 19, 0)
  | 19 => (53, 0, 0, 20, 0)
  | _ => (99, 0, 0, 0, 0)
def tX9_comes (pc : Nat) : zI := if pc < 20 then tmX9_comes pc else (99, 0, 0, 0, 0)
theorem tkX9_comes : z_tab RX9 wsX9_comes 1 (some .int) cX9_comes 20 tX9_comes := z_tab_of (tm := tmX9_comes) (by decide +kernel)
theorem sX9_comes_0 (lv : zL) (st : List Value) (w : zW) (nx K : Nat → zL → List Value → zW → Prop) (Rt : Option Value → zW → Prop) : z_st1 (tX9_comes 0) 0 lv st w nx K Rt = (z_la lv 0 (fun x => nx 1 lv (.ref x :: st) w)) := id rfl
theorem sX9_comes_1 (lv : zL) (st : List Value) (w : zW) (nx K : Nat → zL → List Value → zW → Prop) (Rt : Option Value → zW → Prop) : z_st1 (tX9_comes 1) 1 lv st w nx K Rt = (nx 2 lv (.int (2 : Int32) :: st) w) := id rfl
theorem sX9_comes_2 (lv : zL) (st : List Value) (w : zW) (nx K : Nat → zL → List Value → zW → Prop) (Rt : Option Value → zW → Prop) : z_st1 (tX9_comes 2) 2 lv st w nx K Rt = (z_ia st (fun x i r => z_ob w x 10 (fun fs => 3 < fs.length ∧ nx 5 lv r (z_up w x (.inr (10, fs.set 3 (.int i))))))) := id rfl
theorem sX9_comes_5 (lv : zL) (st : List Value) (w : zW) (nx K : Nat → zL → List Value → zW → Prop) (Rt : Option Value → zW → Prop) : z_st1 (tX9_comes 5) 5 lv st w nx K Rt = (z_la lv 0 (fun x => nx 6 lv (.ref x :: st) w)) := id rfl
theorem sX9_comes_6 (lv : zL) (st : List Value) (w : zW) (nx K : Nat → zL → List Value → zW → Prop) (Rt : Option Value → zW → Prop) : z_st1 (tX9_comes 6) 6 lv st w nx K Rt = (nx 7 lv (.int (0 : Int32) :: st) w) := id rfl
theorem sX9_comes_7 (lv : zL) (st : List Value) (w : zW) (nx K : Nat → zL → List Value → zW → Prop) (Rt : Option Value → zW → Prop) : z_st1 (tX9_comes 7) 7 lv st w nx K Rt = (z_ia st (fun x i r => z_ob w x 10 (fun fs => 32 < fs.length ∧ nx 10 lv r (z_up w x (.inr (10, fs.set 32 (.int i))))))) := id rfl
theorem sX9_comes_10 (lv : zL) (st : List Value) (w : zW) (nx K : Nat → zL → List Value → zW → Prop) (Rt : Option Value → zW → Prop) : z_st1 (tX9_comes 10) 10 lv st w nx K Rt = (z_la lv 0 (fun x => nx 11 lv (.ref x :: st) w)) := id rfl
theorem sX9_comes_11 (lv : zL) (st : List Value) (w : zW) (nx K : Nat → zL → List Value → zW → Prop) (Rt : Option Value → zW → Prop) : z_st1 (tX9_comes 11) 11 lv st w nx K Rt = (nx 12 lv (.int (-1 : Int32) :: st) w) := id rfl
theorem sX9_comes_12 (lv : zL) (st : List Value) (w : zW) (nx K : Nat → zL → List Value → zW → Prop) (Rt : Option Value → zW → Prop) : z_st1 (tX9_comes 12) 12 lv st w nx K Rt = (z_ia st (fun x i r => z_ob w x 10 (fun fs => 33 < fs.length ∧ nx 15 lv r (z_up w x (.inr (10, fs.set 33 (.int i))))))) := id rfl
theorem sX9_comes_15 (lv : zL) (st : List Value) (w : zW) (nx K : Nat → zL → List Value → zW → Prop) (Rt : Option Value → zW → Prop) : z_st1 (tX9_comes 15) 15 lv st w nx K Rt = (z_la lv 0 (fun x => nx 16 lv (.ref x :: st) w)) := id rfl
theorem sX9_comes_16 (lv : zL) (st : List Value) (w : zW) (nx K : Nat → zL → List Value → zW → Prop) (Rt : Option Value → zW → Prop) : z_st1 (tX9_comes 16) 16 lv st w nx K Rt = (z_1a st (fun x r => z_ob w x 10 (fun fs => z_fl fs 31 (fun u => nx 19 lv (u :: r) w)))) := id rfl
theorem sX9_comes_19 (lv : zL) (st : List Value) (w : zW) (nx K : Nat → zL → List Value → zW → Prop) (Rt : Option Value → zW → Prop) : z_st1 (tX9_comes 19) 19 lv st w nx K Rt = (z_e1 st (fun x => Rt (some (.int x)) w)) := id rfl

def tmX9_next (pc : Nat) : zI := match pc with
  | 0 => (1, 0, 0, 1, 0)
  | 1 => (6, 0, 0, 2, 0)
  | 2 => (47, 10, 0, 5, 0)
  | 5 => (1, 0, 0, 6, 0)
  | 6 => (46, 10, 3, 9, 0)
  | 9 => (6, 0, 0, 10, 2)
  | 10 => (40, 16, 0, 13, 0)
  | 13 => (6, 0, 0, 15, (-5))
  | 15 => (53, 0, 0, 16, 0)
  | 16 => (1, 0, 0, 17, 0)
  | 17 => (1, 0, 0, 18, 0)
  | 18 => (46, 10, 32, 21, 0)
  | 21 => (1, 0, 0, 22, 0)
  | 22 => (46, 10, 31, 25, 0)
  | 25 => (43, 40, 0, 28, 0)
  | 28 => (1, 0, 0, 29, 0)
  | 29 => (46, 10, 29, 32, 0)
  | 32 => (1, 0, 0, 33, 0)
  | 33 => (46, 10, 32, 36, 0)
  | 36 => (48, 0, 0, 37, 0)
  | 37 => (33, 41, 0, 40, 0)
  | 40 => (6, 0, 0, 41, (-1))
  | 41 => (47, 10, 33, 44, 0)
  | 44 => (1, 0, 0, 45, 0)
  | 45 => (29, 0, 0, 46, 0)
  | 46 => (46, 10, 32, 49, 0)
  | 49 => (6, 0, 0, 50, 1)
  | 50 => (8, 0, 0, 51, 0)
  | 51 => (47, 10, 32, 54, 0)
  | 54 => (1, 0, 0, 55, 0)
  | 55 => (46, 10, 33, 58, 0)
  | 58 => (6, 0, 0, 59, (-1))
  | 59 => (41, 67, 0, 62, 0)
  | 62 => (1, 0, 0, 63, 0)
  | 63 => (6, 0, 0, 64, 0)
  | 64 => (47, 10, 3, 67, 0)
  | 67 => (1, 0, 0, 68, 0)
  | 68 => (46, 10, 33, 71, 0)
  | 71 => (6, 0, 0, 72, (-1))
  | 72 => (41, 79, 0, 75, 0)
  | 75 => (6, 0, 0, 76, 0)
  | 76 => (33, 88, 0, 79, 0)
  | 79 => (1, 0, 0, 80, 0)
  | 80 => (46, 10, 27, 83, 0)
  | 83 => (1, 0, 0, 84, 0)
  | 84 => (46, 10, 33, 87, 0)
  | 87 => (48, 0, 0, 88, 0)
  | 88 => (53, 0, 0, 89, 0)
  | _ => (99, 0, 0, 0, 0)
def tX9_next (pc : Nat) : zI := if pc < 89 then tmX9_next pc else (99, 0, 0, 0, 0)
theorem tkX9_next : z_tab RX9 wsX9_next 1 (some .int) cX9_next 89 tX9_next := z_tab_of (tm := tmX9_next) (by decide +kernel)
theorem sX9_next_0 (lv : zL) (st : List Value) (w : zW) (nx K : Nat → zL → List Value → zW → Prop) (Rt : Option Value → zW → Prop) : z_st1 (tX9_next 0) 0 lv st w nx K Rt = (z_la lv 0 (fun x => nx 1 lv (.ref x :: st) w)) := id rfl
theorem sX9_next_1 (lv : zL) (st : List Value) (w : zW) (nx K : Nat → zL → List Value → zW → Prop) (Rt : Option Value → zW → Prop) : z_st1 (tX9_next 1) 1 lv st w nx K Rt = (nx 2 lv (.int (0 : Int32) :: st) w) := id rfl
theorem sX9_next_2 (lv : zL) (st : List Value) (w : zW) (nx K : Nat → zL → List Value → zW → Prop) (Rt : Option Value → zW → Prop) : z_st1 (tX9_next 2) 2 lv st w nx K Rt = (z_ia st (fun x i r => z_ob w x 10 (fun fs => 0 < fs.length ∧ nx 5 lv r (z_up w x (.inr (10, fs.set 0 (.int i))))))) := id rfl
theorem sX9_next_5 (lv : zL) (st : List Value) (w : zW) (nx K : Nat → zL → List Value → zW → Prop) (Rt : Option Value → zW → Prop) : z_st1 (tX9_next 5) 5 lv st w nx K Rt = (z_la lv 0 (fun x => nx 6 lv (.ref x :: st) w)) := id rfl
theorem sX9_next_6 (lv : zL) (st : List Value) (w : zW) (nx K : Nat → zL → List Value → zW → Prop) (Rt : Option Value → zW → Prop) : z_st1 (tX9_next 6) 6 lv st w nx K Rt = (z_1a st (fun x r => z_ob w x 10 (fun fs => z_fl fs 3 (fun u => nx 9 lv (u :: r) w)))) := id rfl
theorem sX9_next_9 (lv : zL) (st : List Value) (w : zW) (nx K : Nat → zL → List Value → zW → Prop) (Rt : Option Value → zW → Prop) : z_st1 (tX9_next 9) 9 lv st w nx K Rt = (nx 10 lv (.int (2 : Int32) :: st) w) := id rfl
theorem sX9_next_10 (lv : zL) (st : List Value) (w : zW) (nx K : Nat → zL → List Value → zW → Prop) (Rt : Option Value → zW → Prop) : z_st1 (tX9_next 10) 10 lv st w nx K Rt = (z_2i st (fun x y r => (x = y → nx 16 lv r w) ∧ (¬ x = y → nx 13 lv r w))) := id rfl
theorem sX9_next_13 (lv : zL) (st : List Value) (w : zW) (nx K : Nat → zL → List Value → zW → Prop) (Rt : Option Value → zW → Prop) : z_st1 (tX9_next 13) 13 lv st w nx K Rt = (nx 15 lv (.int (-5 : Int32) :: st) w) := id rfl
theorem sX9_next_15 (lv : zL) (st : List Value) (w : zW) (nx K : Nat → zL → List Value → zW → Prop) (Rt : Option Value → zW → Prop) : z_st1 (tX9_next 15) 15 lv st w nx K Rt = (z_e1 st (fun x => Rt (some (.int x)) w)) := id rfl
theorem sX9_next_16 (lv : zL) (st : List Value) (w : zW) (nx K : Nat → zL → List Value → zW → Prop) (Rt : Option Value → zW → Prop) : z_st1 (tX9_next 16) 16 lv st w nx K Rt = (z_la lv 0 (fun x => nx 17 lv (.ref x :: st) w)) := id rfl
theorem sX9_next_17 (lv : zL) (st : List Value) (w : zW) (nx K : Nat → zL → List Value → zW → Prop) (Rt : Option Value → zW → Prop) : z_st1 (tX9_next 17) 17 lv st w nx K Rt = (z_la lv 0 (fun x => nx 18 lv (.ref x :: st) w)) := id rfl
theorem sX9_next_18 (lv : zL) (st : List Value) (w : zW) (nx K : Nat → zL → List Value → zW → Prop) (Rt : Option Value → zW → Prop) : z_st1 (tX9_next 18) 18 lv st w nx K Rt = (z_1a st (fun x r => z_ob w x 10 (fun fs => z_fl fs 32 (fun u => nx 21 lv (u :: r) w)))) := id rfl
theorem sX9_next_21 (lv : zL) (st : List Value) (w : zW) (nx K : Nat → zL → List Value → zW → Prop) (Rt : Option Value → zW → Prop) : z_st1 (tX9_next 21) 21 lv st w nx K Rt = (z_la lv 0 (fun x => nx 22 lv (.ref x :: st) w)) := id rfl
theorem sX9_next_22 (lv : zL) (st : List Value) (w : zW) (nx K : Nat → zL → List Value → zW → Prop) (Rt : Option Value → zW → Prop) : z_st1 (tX9_next 22) 22 lv st w nx K Rt = (z_1a st (fun x r => z_ob w x 10 (fun fs => z_fl fs 31 (fun u => nx 25 lv (u :: r) w)))) := id rfl
theorem sX9_next_25 (lv : zL) (st : List Value) (w : zW) (nx K : Nat → zL → List Value → zW → Prop) (Rt : Option Value → zW → Prop) : z_st1 (tX9_next 25) 25 lv st w nx K Rt = (z_2i st (fun x y r => (y ≤ x → nx 40 lv r w) ∧ (¬ y ≤ x → nx 28 lv r w))) := id rfl
theorem sX9_next_28 (lv : zL) (st : List Value) (w : zW) (nx K : Nat → zL → List Value → zW → Prop) (Rt : Option Value → zW → Prop) : z_st1 (tX9_next 28) 28 lv st w nx K Rt = (z_la lv 0 (fun x => nx 29 lv (.ref x :: st) w)) := id rfl
theorem sX9_next_29 (lv : zL) (st : List Value) (w : zW) (nx K : Nat → zL → List Value → zW → Prop) (Rt : Option Value → zW → Prop) : z_st1 (tX9_next 29) 29 lv st w nx K Rt = (z_1a st (fun x r => z_ob w x 10 (fun fs => z_fl fs 29 (fun u => nx 32 lv (u :: r) w)))) := id rfl
theorem sX9_next_32 (lv : zL) (st : List Value) (w : zW) (nx K : Nat → zL → List Value → zW → Prop) (Rt : Option Value → zW → Prop) : z_st1 (tX9_next 32) 32 lv st w nx K Rt = (z_la lv 0 (fun x => nx 33 lv (.ref x :: st) w)) := id rfl
theorem sX9_next_33 (lv : zL) (st : List Value) (w : zW) (nx K : Nat → zL → List Value → zW → Prop) (Rt : Option Value → zW → Prop) : z_st1 (tX9_next 33) 33 lv st w nx K Rt = (z_1a st (fun x r => z_ob w x 10 (fun fs => z_fl fs 32 (fun u => nx 36 lv (u :: r) w)))) := id rfl
theorem sX9_next_36 (lv : zL) (st : List Value) (w : zW) (nx K : Nat → zL → List Value → zW → Prop) (Rt : Option Value → zW → Prop) : z_st1 (tX9_next 36) 36 lv st w nx K Rt = (z_ia st (fun x i r => z_ar0 w x (fun m g => vp_in i m ∧ nx 37 lv (.int (g i.toNatClampNeg) :: r) w))) := id rfl
theorem sX9_next_37 (lv : zL) (st : List Value) (w : zW) (nx K : Nat → zL → List Value → zW → Prop) (Rt : Option Value → zW → Prop) : z_st1 (tX9_next 37) 37 lv st w nx K Rt = (nx 41 lv st w) := id rfl
theorem sX9_next_40 (lv : zL) (st : List Value) (w : zW) (nx K : Nat → zL → List Value → zW → Prop) (Rt : Option Value → zW → Prop) : z_st1 (tX9_next 40) 40 lv st w nx K Rt = (nx 41 lv (.int (-1 : Int32) :: st) w) := id rfl
theorem sX9_next_41 (lv : zL) (st : List Value) (w : zW) (nx K : Nat → zL → List Value → zW → Prop) (Rt : Option Value → zW → Prop) : z_st1 (tX9_next 41) 41 lv st w nx K Rt = (z_ia st (fun x i r => z_ob w x 10 (fun fs => 33 < fs.length ∧ nx 44 lv r (z_up w x (.inr (10, fs.set 33 (.int i))))))) := id rfl
theorem sX9_next_44 (lv : zL) (st : List Value) (w : zW) (nx K : Nat → zL → List Value → zW → Prop) (Rt : Option Value → zW → Prop) : z_st1 (tX9_next 44) 44 lv st w nx K Rt = (z_la lv 0 (fun x => nx 45 lv (.ref x :: st) w)) := id rfl
theorem sX9_next_45 (lv : zL) (st : List Value) (w : zW) (nx K : Nat → zL → List Value → zW → Prop) (Rt : Option Value → zW → Prop) : z_st1 (tX9_next 45) 45 lv st w nx K Rt = (z_d1 st (fun x r => nx 46 lv (x :: x :: r) w)) := id rfl
theorem sX9_next_46 (lv : zL) (st : List Value) (w : zW) (nx K : Nat → zL → List Value → zW → Prop) (Rt : Option Value → zW → Prop) : z_st1 (tX9_next 46) 46 lv st w nx K Rt = (z_1a st (fun x r => z_ob w x 10 (fun fs => z_fl fs 32 (fun u => nx 49 lv (u :: r) w)))) := id rfl
theorem sX9_next_49 (lv : zL) (st : List Value) (w : zW) (nx K : Nat → zL → List Value → zW → Prop) (Rt : Option Value → zW → Prop) : z_st1 (tX9_next 49) 49 lv st w nx K Rt = (nx 50 lv (.int (1 : Int32) :: st) w) := id rfl
theorem sX9_next_50 (lv : zL) (st : List Value) (w : zW) (nx K : Nat → zL → List Value → zW → Prop) (Rt : Option Value → zW → Prop) : z_st1 (tX9_next 50) 50 lv st w nx K Rt = (z_2i st (fun x y r => nx 51 lv (.int (x + y) :: r) w)) := id rfl
theorem sX9_next_51 (lv : zL) (st : List Value) (w : zW) (nx K : Nat → zL → List Value → zW → Prop) (Rt : Option Value → zW → Prop) : z_st1 (tX9_next 51) 51 lv st w nx K Rt = (z_ia st (fun x i r => z_ob w x 10 (fun fs => 32 < fs.length ∧ nx 54 lv r (z_up w x (.inr (10, fs.set 32 (.int i))))))) := id rfl
theorem sX9_next_54 (lv : zL) (st : List Value) (w : zW) (nx K : Nat → zL → List Value → zW → Prop) (Rt : Option Value → zW → Prop) : z_st1 (tX9_next 54) 54 lv st w nx K Rt = (z_la lv 0 (fun x => nx 55 lv (.ref x :: st) w)) := id rfl
theorem sX9_next_55 (lv : zL) (st : List Value) (w : zW) (nx K : Nat → zL → List Value → zW → Prop) (Rt : Option Value → zW → Prop) : z_st1 (tX9_next 55) 55 lv st w nx K Rt = (z_1a st (fun x r => z_ob w x 10 (fun fs => z_fl fs 33 (fun u => nx 58 lv (u :: r) w)))) := id rfl
theorem sX9_next_58 (lv : zL) (st : List Value) (w : zW) (nx K : Nat → zL → List Value → zW → Prop) (Rt : Option Value → zW → Prop) : z_st1 (tX9_next 58) 58 lv st w nx K Rt = (nx 59 lv (.int (-1 : Int32) :: st) w) := id rfl
theorem sX9_next_59 (lv : zL) (st : List Value) (w : zW) (nx K : Nat → zL → List Value → zW → Prop) (Rt : Option Value → zW → Prop) : z_st1 (tX9_next 59) 59 lv st w nx K Rt = (z_2i st (fun x y r => (¬ x = y → nx 67 lv r w) ∧ (x = y → nx 62 lv r w))) := id rfl
theorem sX9_next_62 (lv : zL) (st : List Value) (w : zW) (nx K : Nat → zL → List Value → zW → Prop) (Rt : Option Value → zW → Prop) : z_st1 (tX9_next 62) 62 lv st w nx K Rt = (z_la lv 0 (fun x => nx 63 lv (.ref x :: st) w)) := id rfl
theorem sX9_next_63 (lv : zL) (st : List Value) (w : zW) (nx K : Nat → zL → List Value → zW → Prop) (Rt : Option Value → zW → Prop) : z_st1 (tX9_next 63) 63 lv st w nx K Rt = (nx 64 lv (.int (0 : Int32) :: st) w) := id rfl
theorem sX9_next_64 (lv : zL) (st : List Value) (w : zW) (nx K : Nat → zL → List Value → zW → Prop) (Rt : Option Value → zW → Prop) : z_st1 (tX9_next 64) 64 lv st w nx K Rt = (z_ia st (fun x i r => z_ob w x 10 (fun fs => 3 < fs.length ∧ nx 67 lv r (z_up w x (.inr (10, fs.set 3 (.int i))))))) := id rfl
theorem sX9_next_67 (lv : zL) (st : List Value) (w : zW) (nx K : Nat → zL → List Value → zW → Prop) (Rt : Option Value → zW → Prop) : z_st1 (tX9_next 67) 67 lv st w nx K Rt = (z_la lv 0 (fun x => nx 68 lv (.ref x :: st) w)) := id rfl
theorem sX9_next_68 (lv : zL) (st : List Value) (w : zW) (nx K : Nat → zL → List Value → zW → Prop) (Rt : Option Value → zW → Prop) : z_st1 (tX9_next 68) 68 lv st w nx K Rt = (z_1a st (fun x r => z_ob w x 10 (fun fs => z_fl fs 33 (fun u => nx 71 lv (u :: r) w)))) := id rfl
theorem sX9_next_71 (lv : zL) (st : List Value) (w : zW) (nx K : Nat → zL → List Value → zW → Prop) (Rt : Option Value → zW → Prop) : z_st1 (tX9_next 71) 71 lv st w nx K Rt = (nx 72 lv (.int (-1 : Int32) :: st) w) := id rfl
theorem sX9_next_72 (lv : zL) (st : List Value) (w : zW) (nx K : Nat → zL → List Value → zW → Prop) (Rt : Option Value → zW → Prop) : z_st1 (tX9_next 72) 72 lv st w nx K Rt = (z_2i st (fun x y r => (¬ x = y → nx 79 lv r w) ∧ (x = y → nx 75 lv r w))) := id rfl
theorem sX9_next_75 (lv : zL) (st : List Value) (w : zW) (nx K : Nat → zL → List Value → zW → Prop) (Rt : Option Value → zW → Prop) : z_st1 (tX9_next 75) 75 lv st w nx K Rt = (nx 76 lv (.int (0 : Int32) :: st) w) := id rfl
theorem sX9_next_76 (lv : zL) (st : List Value) (w : zW) (nx K : Nat → zL → List Value → zW → Prop) (Rt : Option Value → zW → Prop) : z_st1 (tX9_next 76) 76 lv st w nx K Rt = (nx 88 lv st w) := id rfl
theorem sX9_next_79 (lv : zL) (st : List Value) (w : zW) (nx K : Nat → zL → List Value → zW → Prop) (Rt : Option Value → zW → Prop) : z_st1 (tX9_next 79) 79 lv st w nx K Rt = (z_la lv 0 (fun x => nx 80 lv (.ref x :: st) w)) := id rfl
theorem sX9_next_80 (lv : zL) (st : List Value) (w : zW) (nx K : Nat → zL → List Value → zW → Prop) (Rt : Option Value → zW → Prop) : z_st1 (tX9_next 80) 80 lv st w nx K Rt = (z_1a st (fun x r => z_ob w x 10 (fun fs => z_fl fs 27 (fun u => nx 83 lv (u :: r) w)))) := id rfl
theorem sX9_next_83 (lv : zL) (st : List Value) (w : zW) (nx K : Nat → zL → List Value → zW → Prop) (Rt : Option Value → zW → Prop) : z_st1 (tX9_next 83) 83 lv st w nx K Rt = (z_la lv 0 (fun x => nx 84 lv (.ref x :: st) w)) := id rfl
theorem sX9_next_84 (lv : zL) (st : List Value) (w : zW) (nx K : Nat → zL → List Value → zW → Prop) (Rt : Option Value → zW → Prop) : z_st1 (tX9_next 84) 84 lv st w nx K Rt = (z_1a st (fun x r => z_ob w x 10 (fun fs => z_fl fs 33 (fun u => nx 87 lv (u :: r) w)))) := id rfl
theorem sX9_next_87 (lv : zL) (st : List Value) (w : zW) (nx K : Nat → zL → List Value → zW → Prop) (Rt : Option Value → zW → Prop) : z_st1 (tX9_next 87) 87 lv st w nx K Rt = (z_ia st (fun x i r => z_ar0 w x (fun m g => vp_in i m ∧ nx 88 lv (.int (g i.toNatClampNeg) :: r) w))) := id rfl
theorem sX9_next_88 (lv : zL) (st : List Value) (w : zW) (nx K : Nat → zL → List Value → zW → Prop) (Rt : Option Value → zW → Prop) : z_st1 (tX9_next 88) 88 lv st w nx K Rt = (z_e1 st (fun x => Rt (some (.int x)) w)) := id rfl

def tmX9_merge (pc : Nat) : zI := match pc with
  | 0 => (1, 0, 0, 1, 0)
  | 1 => (6, 0, 0, 2, 0)
  | 2 => (47, 10, 0, 5, 0)
  | 5 => (1, 0, 0, 6, 0)
  | 6 => (0, 2, 0, 7, 0)
  | 10 => (35, 16, 0, 13, 0)
  | 13 => (6, 0, 0, 15, (-2))
  | 15 => (53, 0, 0, 16, 0)
  | 16 => (0, 1, 0, 17, 0)
  | 17 => (36, 26, 0, 20, 0)
  | 20 => (0, 1, 0, 21, 0)
  | 21 => (6, 0, 0, 23, 8)
  | 23 => (42, 29, 0, 26, 0)
  | 26 => (6, 0, 0, 28, (-4))
  | 28 => (53, 0, 0, 29, 0)
  | 29 => (1, 0, 0, 30, 0)
  | 30 => (46, 10, 24, 33, 0)
  | 33 => (0, 1, 0, 34, 0)
  | 34 => (48, 0, 0, 35, 0)
  | 35 => (6, 0, 0, 38, 200)
  | 38 => (41, 43, 0, 41, 0)
  | 41 => (6, 0, 0, 42, (-1))
  | 42 => (53, 0, 0, 43, 0)
  | 43 => (1, 0, 0, 44, 0)
  | 44 => (46, 10, 23, 47, 0)
  | 47 => (6, 0, 0, 50, 200)
  | 50 => (0, 1, 0, 51, 0)
  | 51 => (10, 0, 0, 52, 0)
  | 52 => (1, 0, 0, 53, 0)
  | 53 => (46, 10, 24, 56, 0)
  | 56 => (0, 1, 0, 57, 0)
  | 57 => (48, 0, 0, 58, 0)
  | 58 => (8, 0, 0, 59, 0)
  | 59 => (0, 2, 0, 60, 0)
  | 60 => (49, 0, 0, 61, 0)
  | 61 => (1, 0, 0, 62, 0)
  | 62 => (46, 10, 24, 65, 0)
  | 65 => (0, 1, 0, 66, 0)
  | 66 => (32, 0, 0, 67, 0)
  | 67 => (48, 0, 0, 68, 0)
  | 68 => (6, 0, 0, 69, 1)
  | 69 => (8, 0, 0, 70, 0)
  | 70 => (49, 0, 0, 71, 0)
  | 71 => (1, 0, 0, 72, 0)
  | 72 => (46, 10, 24, 75, 0)
  | 75 => (0, 1, 0, 76, 0)
  | 76 => (48, 0, 0, 77, 0)
  | 77 => (53, 0, 0, 78, 0)
  | _ => (99, 0, 0, 0, 0)
def tX9_merge (pc : Nat) : zI := if pc < 78 then tmX9_merge pc else (99, 0, 0, 0, 0)
theorem tkX9_merge : z_tab RX9 wsX9_merge 3 (some .int) cX9_merge 78 tX9_merge := z_tab_of (tm := tmX9_merge) (by decide +kernel)
theorem sX9_merge_0 (lv : zL) (st : List Value) (w : zW) (nx K : Nat → zL → List Value → zW → Prop) (Rt : Option Value → zW → Prop) : z_st1 (tX9_merge 0) 0 lv st w nx K Rt = (z_la lv 0 (fun x => nx 1 lv (.ref x :: st) w)) := id rfl
theorem sX9_merge_1 (lv : zL) (st : List Value) (w : zW) (nx K : Nat → zL → List Value → zW → Prop) (Rt : Option Value → zW → Prop) : z_st1 (tX9_merge 1) 1 lv st w nx K Rt = (nx 2 lv (.int (0 : Int32) :: st) w) := id rfl
theorem sX9_merge_2 (lv : zL) (st : List Value) (w : zW) (nx K : Nat → zL → List Value → zW → Prop) (Rt : Option Value → zW → Prop) : z_st1 (tX9_merge 2) 2 lv st w nx K Rt = (z_ia st (fun x i r => z_ob w x 10 (fun fs => 0 < fs.length ∧ nx 5 lv r (z_up w x (.inr (10, fs.set 0 (.int i))))))) := id rfl
theorem sX9_merge_5 (lv : zL) (st : List Value) (w : zW) (nx K : Nat → zL → List Value → zW → Prop) (Rt : Option Value → zW → Prop) : z_st1 (tX9_merge 5) 5 lv st w nx K Rt = (z_la lv 0 (fun x => nx 6 lv (.ref x :: st) w)) := id rfl
theorem sX9_merge_6 (lv : zL) (st : List Value) (w : zW) (nx K : Nat → zL → List Value → zW → Prop) (Rt : Option Value → zW → Prop) : z_st1 (tX9_merge 6) 6 lv st w nx K Rt = (z_li lv 2 (fun x => nx 7 lv (.int x :: st) w)) := id rfl
theorem sX9_merge_10 (lv : zL) (st : List Value) (w : zW) (nx K : Nat → zL → List Value → zW → Prop) (Rt : Option Value → zW → Prop) : z_st1 (tX9_merge 10) 10 lv st w nx K Rt = (z_1i st (fun x r => (¬ x = 0 → nx 16 lv r w) ∧ (x = 0 → nx 13 lv r w))) := id rfl
theorem sX9_merge_13 (lv : zL) (st : List Value) (w : zW) (nx K : Nat → zL → List Value → zW → Prop) (Rt : Option Value → zW → Prop) : z_st1 (tX9_merge 13) 13 lv st w nx K Rt = (nx 15 lv (.int (-2 : Int32) :: st) w) := id rfl
theorem sX9_merge_15 (lv : zL) (st : List Value) (w : zW) (nx K : Nat → zL → List Value → zW → Prop) (Rt : Option Value → zW → Prop) : z_st1 (tX9_merge 15) 15 lv st w nx K Rt = (z_e1 st (fun x => Rt (some (.int x)) w)) := id rfl
theorem sX9_merge_16 (lv : zL) (st : List Value) (w : zW) (nx K : Nat → zL → List Value → zW → Prop) (Rt : Option Value → zW → Prop) : z_st1 (tX9_merge 16) 16 lv st w nx K Rt = (z_li lv 1 (fun x => nx 17 lv (.int x :: st) w)) := id rfl
theorem sX9_merge_17 (lv : zL) (st : List Value) (w : zW) (nx K : Nat → zL → List Value → zW → Prop) (Rt : Option Value → zW → Prop) : z_st1 (tX9_merge 17) 17 lv st w nx K Rt = (z_1i st (fun x r => (x < 0 → nx 26 lv r w) ∧ (¬ x < 0 → nx 20 lv r w))) := id rfl
theorem sX9_merge_20 (lv : zL) (st : List Value) (w : zW) (nx K : Nat → zL → List Value → zW → Prop) (Rt : Option Value → zW → Prop) : z_st1 (tX9_merge 20) 20 lv st w nx K Rt = (z_li lv 1 (fun x => nx 21 lv (.int x :: st) w)) := id rfl
theorem sX9_merge_21 (lv : zL) (st : List Value) (w : zW) (nx K : Nat → zL → List Value → zW → Prop) (Rt : Option Value → zW → Prop) : z_st1 (tX9_merge 21) 21 lv st w nx K Rt = (nx 23 lv (.int (8 : Int32) :: st) w) := id rfl
theorem sX9_merge_23 (lv : zL) (st : List Value) (w : zW) (nx K : Nat → zL → List Value → zW → Prop) (Rt : Option Value → zW → Prop) : z_st1 (tX9_merge 23) 23 lv st w nx K Rt = (z_2i st (fun x y r => (x < y → nx 29 lv r w) ∧ (¬ x < y → nx 26 lv r w))) := id rfl
theorem sX9_merge_26 (lv : zL) (st : List Value) (w : zW) (nx K : Nat → zL → List Value → zW → Prop) (Rt : Option Value → zW → Prop) : z_st1 (tX9_merge 26) 26 lv st w nx K Rt = (nx 28 lv (.int (-4 : Int32) :: st) w) := id rfl
theorem sX9_merge_28 (lv : zL) (st : List Value) (w : zW) (nx K : Nat → zL → List Value → zW → Prop) (Rt : Option Value → zW → Prop) : z_st1 (tX9_merge 28) 28 lv st w nx K Rt = (z_e1 st (fun x => Rt (some (.int x)) w)) := id rfl
theorem sX9_merge_29 (lv : zL) (st : List Value) (w : zW) (nx K : Nat → zL → List Value → zW → Prop) (Rt : Option Value → zW → Prop) : z_st1 (tX9_merge 29) 29 lv st w nx K Rt = (z_la lv 0 (fun x => nx 30 lv (.ref x :: st) w)) := id rfl
theorem sX9_merge_30 (lv : zL) (st : List Value) (w : zW) (nx K : Nat → zL → List Value → zW → Prop) (Rt : Option Value → zW → Prop) : z_st1 (tX9_merge 30) 30 lv st w nx K Rt = (z_1a st (fun x r => z_ob w x 10 (fun fs => z_fl fs 24 (fun u => nx 33 lv (u :: r) w)))) := id rfl
theorem sX9_merge_33 (lv : zL) (st : List Value) (w : zW) (nx K : Nat → zL → List Value → zW → Prop) (Rt : Option Value → zW → Prop) : z_st1 (tX9_merge 33) 33 lv st w nx K Rt = (z_li lv 1 (fun x => nx 34 lv (.int x :: st) w)) := id rfl
theorem sX9_merge_34 (lv : zL) (st : List Value) (w : zW) (nx K : Nat → zL → List Value → zW → Prop) (Rt : Option Value → zW → Prop) : z_st1 (tX9_merge 34) 34 lv st w nx K Rt = (z_ia st (fun x i r => z_ar0 w x (fun m g => vp_in i m ∧ nx 35 lv (.int (g i.toNatClampNeg) :: r) w))) := id rfl
theorem sX9_merge_35 (lv : zL) (st : List Value) (w : zW) (nx K : Nat → zL → List Value → zW → Prop) (Rt : Option Value → zW → Prop) : z_st1 (tX9_merge 35) 35 lv st w nx K Rt = (nx 38 lv (.int (200 : Int32) :: st) w) := id rfl
theorem sX9_merge_38 (lv : zL) (st : List Value) (w : zW) (nx K : Nat → zL → List Value → zW → Prop) (Rt : Option Value → zW → Prop) : z_st1 (tX9_merge 38) 38 lv st w nx K Rt = (z_2i st (fun x y r => (¬ x = y → nx 43 lv r w) ∧ (x = y → nx 41 lv r w))) := id rfl
theorem sX9_merge_41 (lv : zL) (st : List Value) (w : zW) (nx K : Nat → zL → List Value → zW → Prop) (Rt : Option Value → zW → Prop) : z_st1 (tX9_merge 41) 41 lv st w nx K Rt = (nx 42 lv (.int (-1 : Int32) :: st) w) := id rfl
theorem sX9_merge_42 (lv : zL) (st : List Value) (w : zW) (nx K : Nat → zL → List Value → zW → Prop) (Rt : Option Value → zW → Prop) : z_st1 (tX9_merge 42) 42 lv st w nx K Rt = (z_e1 st (fun x => Rt (some (.int x)) w)) := id rfl
theorem sX9_merge_43 (lv : zL) (st : List Value) (w : zW) (nx K : Nat → zL → List Value → zW → Prop) (Rt : Option Value → zW → Prop) : z_st1 (tX9_merge 43) 43 lv st w nx K Rt = (z_la lv 0 (fun x => nx 44 lv (.ref x :: st) w)) := id rfl
theorem sX9_merge_44 (lv : zL) (st : List Value) (w : zW) (nx K : Nat → zL → List Value → zW → Prop) (Rt : Option Value → zW → Prop) : z_st1 (tX9_merge 44) 44 lv st w nx K Rt = (z_1a st (fun x r => z_ob w x 10 (fun fs => z_fl fs 23 (fun u => nx 47 lv (u :: r) w)))) := id rfl
theorem sX9_merge_47 (lv : zL) (st : List Value) (w : zW) (nx K : Nat → zL → List Value → zW → Prop) (Rt : Option Value → zW → Prop) : z_st1 (tX9_merge 47) 47 lv st w nx K Rt = (nx 50 lv (.int (200 : Int32) :: st) w) := id rfl
theorem sX9_merge_50 (lv : zL) (st : List Value) (w : zW) (nx K : Nat → zL → List Value → zW → Prop) (Rt : Option Value → zW → Prop) : z_st1 (tX9_merge 50) 50 lv st w nx K Rt = (z_li lv 1 (fun x => nx 51 lv (.int x :: st) w)) := id rfl
theorem sX9_merge_51 (lv : zL) (st : List Value) (w : zW) (nx K : Nat → zL → List Value → zW → Prop) (Rt : Option Value → zW → Prop) : z_st1 (tX9_merge 51) 51 lv st w nx K Rt = (z_2i st (fun x y r => nx 52 lv (.int (x * y) :: r) w)) := id rfl
theorem sX9_merge_52 (lv : zL) (st : List Value) (w : zW) (nx K : Nat → zL → List Value → zW → Prop) (Rt : Option Value → zW → Prop) : z_st1 (tX9_merge 52) 52 lv st w nx K Rt = (z_la lv 0 (fun x => nx 53 lv (.ref x :: st) w)) := id rfl
theorem sX9_merge_53 (lv : zL) (st : List Value) (w : zW) (nx K : Nat → zL → List Value → zW → Prop) (Rt : Option Value → zW → Prop) : z_st1 (tX9_merge 53) 53 lv st w nx K Rt = (z_1a st (fun x r => z_ob w x 10 (fun fs => z_fl fs 24 (fun u => nx 56 lv (u :: r) w)))) := id rfl
theorem sX9_merge_56 (lv : zL) (st : List Value) (w : zW) (nx K : Nat → zL → List Value → zW → Prop) (Rt : Option Value → zW → Prop) : z_st1 (tX9_merge 56) 56 lv st w nx K Rt = (z_li lv 1 (fun x => nx 57 lv (.int x :: st) w)) := id rfl
theorem sX9_merge_57 (lv : zL) (st : List Value) (w : zW) (nx K : Nat → zL → List Value → zW → Prop) (Rt : Option Value → zW → Prop) : z_st1 (tX9_merge 57) 57 lv st w nx K Rt = (z_ia st (fun x i r => z_ar0 w x (fun m g => vp_in i m ∧ nx 58 lv (.int (g i.toNatClampNeg) :: r) w))) := id rfl
theorem sX9_merge_58 (lv : zL) (st : List Value) (w : zW) (nx K : Nat → zL → List Value → zW → Prop) (Rt : Option Value → zW → Prop) : z_st1 (tX9_merge 58) 58 lv st w nx K Rt = (z_2i st (fun x y r => nx 59 lv (.int (x + y) :: r) w)) := id rfl
theorem sX9_merge_59 (lv : zL) (st : List Value) (w : zW) (nx K : Nat → zL → List Value → zW → Prop) (Rt : Option Value → zW → Prop) : z_st1 (tX9_merge 59) 59 lv st w nx K Rt = (z_li lv 2 (fun x => nx 60 lv (.int x :: st) w)) := id rfl
theorem sX9_merge_60 (lv : zL) (st : List Value) (w : zW) (nx K : Nat → zL → List Value → zW → Prop) (Rt : Option Value → zW → Prop) : z_st1 (tX9_merge 60) 60 lv st w nx K Rt = (z_iia st (fun x i u r => z_ar0 w x (fun m g => vp_in i m ∧ nx 61 lv r (z_up w x (.inl (0, m, .inl (upd g i.toNatClampNeg u))))))) := id rfl
theorem sX9_merge_61 (lv : zL) (st : List Value) (w : zW) (nx K : Nat → zL → List Value → zW → Prop) (Rt : Option Value → zW → Prop) : z_st1 (tX9_merge 61) 61 lv st w nx K Rt = (z_la lv 0 (fun x => nx 62 lv (.ref x :: st) w)) := id rfl
theorem sX9_merge_62 (lv : zL) (st : List Value) (w : zW) (nx K : Nat → zL → List Value → zW → Prop) (Rt : Option Value → zW → Prop) : z_st1 (tX9_merge 62) 62 lv st w nx K Rt = (z_1a st (fun x r => z_ob w x 10 (fun fs => z_fl fs 24 (fun u => nx 65 lv (u :: r) w)))) := id rfl
theorem sX9_merge_65 (lv : zL) (st : List Value) (w : zW) (nx K : Nat → zL → List Value → zW → Prop) (Rt : Option Value → zW → Prop) : z_st1 (tX9_merge 65) 65 lv st w nx K Rt = (z_li lv 1 (fun x => nx 66 lv (.int x :: st) w)) := id rfl
theorem sX9_merge_66 (lv : zL) (st : List Value) (w : zW) (nx K : Nat → zL → List Value → zW → Prop) (Rt : Option Value → zW → Prop) : z_st1 (tX9_merge 66) 66 lv st w nx K Rt = (z_dia st (fun x i r => nx 67 lv (.int i :: .ref x :: .int i :: .ref x :: r) w)) := id rfl
theorem sX9_merge_67 (lv : zL) (st : List Value) (w : zW) (nx K : Nat → zL → List Value → zW → Prop) (Rt : Option Value → zW → Prop) : z_st1 (tX9_merge 67) 67 lv st w nx K Rt = (z_ia st (fun x i r => z_ar0 w x (fun m g => vp_in i m ∧ nx 68 lv (.int (g i.toNatClampNeg) :: r) w))) := id rfl
theorem sX9_merge_68 (lv : zL) (st : List Value) (w : zW) (nx K : Nat → zL → List Value → zW → Prop) (Rt : Option Value → zW → Prop) : z_st1 (tX9_merge 68) 68 lv st w nx K Rt = (nx 69 lv (.int (1 : Int32) :: st) w) := id rfl
theorem sX9_merge_69 (lv : zL) (st : List Value) (w : zW) (nx K : Nat → zL → List Value → zW → Prop) (Rt : Option Value → zW → Prop) : z_st1 (tX9_merge 69) 69 lv st w nx K Rt = (z_2i st (fun x y r => nx 70 lv (.int (x + y) :: r) w)) := id rfl
theorem sX9_merge_70 (lv : zL) (st : List Value) (w : zW) (nx K : Nat → zL → List Value → zW → Prop) (Rt : Option Value → zW → Prop) : z_st1 (tX9_merge 70) 70 lv st w nx K Rt = (z_iia st (fun x i u r => z_ar0 w x (fun m g => vp_in i m ∧ nx 71 lv r (z_up w x (.inl (0, m, .inl (upd g i.toNatClampNeg u))))))) := id rfl
theorem sX9_merge_71 (lv : zL) (st : List Value) (w : zW) (nx K : Nat → zL → List Value → zW → Prop) (Rt : Option Value → zW → Prop) : z_st1 (tX9_merge 71) 71 lv st w nx K Rt = (z_la lv 0 (fun x => nx 72 lv (.ref x :: st) w)) := id rfl
theorem sX9_merge_72 (lv : zL) (st : List Value) (w : zW) (nx K : Nat → zL → List Value → zW → Prop) (Rt : Option Value → zW → Prop) : z_st1 (tX9_merge 72) 72 lv st w nx K Rt = (z_1a st (fun x r => z_ob w x 10 (fun fs => z_fl fs 24 (fun u => nx 75 lv (u :: r) w)))) := id rfl
theorem sX9_merge_75 (lv : zL) (st : List Value) (w : zW) (nx K : Nat → zL → List Value → zW → Prop) (Rt : Option Value → zW → Prop) : z_st1 (tX9_merge 75) 75 lv st w nx K Rt = (z_li lv 1 (fun x => nx 76 lv (.int x :: st) w)) := id rfl
theorem sX9_merge_76 (lv : zL) (st : List Value) (w : zW) (nx K : Nat → zL → List Value → zW → Prop) (Rt : Option Value → zW → Prop) : z_st1 (tX9_merge 76) 76 lv st w nx K Rt = (z_ia st (fun x i r => z_ar0 w x (fun m g => vp_in i m ∧ nx 77 lv (.int (g i.toNatClampNeg) :: r) w))) := id rfl
theorem sX9_merge_77 (lv : zL) (st : List Value) (w : zW) (nx K : Nat → zL → List Value → zW → Prop) (Rt : Option Value → zW → Prop) : z_st1 (tX9_merge 77) 77 lv st w nx K Rt = (z_e1 st (fun x => Rt (some (.int x)) w)) := id rfl
theorem sX9_merge_7 (lv : zL) (st : List Value) (w : zW) (nx K : Nat → zL → List Value → zW → Prop) (Rt : Option Value → zW → Prop) : z_st1 (tX9_merge 7) 7 lv st w nx K Rt = K 7 lv st w := id rfl
theorem dX9_merge_7 : decode cX9_merge 7 = .ok (.invokevirtual 101, 3) := by decide +kernel

def tmX9_mergeAll (pc : Nat) : zI := match pc with
  | 0 => (1, 0, 0, 1, 0)
  | 1 => (6, 0, 0, 2, 0)
  | 2 => (47, 10, 0, 5, 0)
  | 5 => (1, 0, 0, 6, 0)
  | 6 => (46, 10, 3, 9, 0)
  | 9 => (6, 0, 0, 10, 1)
  | 10 => (41, 16, 0, 13, 0)
  | 13 => (6, 0, 0, 15, (-5))
  | 15 => (53, 0, 0, 16, 0)
  | 16 => (6, 0, 0, 17, 0)
  | 17 => (3, 1, 0, 18, 0)
  | 18 => (0, 1, 0, 19, 0)
  | 19 => (6, 0, 0, 21, 8)
  | 21 => (43, 104, 0, 24, 0)
  | 24 => (6, 0, 0, 25, 1)
  | 25 => (3, 2, 0, 26, 0)
  | 26 => (0, 2, 0, 27, 0)
  | 27 => (1, 0, 0, 28, 0)
  | 28 => (46, 10, 24, 31, 0)
  | 31 => (0, 1, 0, 32, 0)
  | 32 => (48, 0, 0, 33, 0)
  | 33 => (43, 98, 0, 36, 0)
  | 36 => (1, 0, 0, 37, 0)
  | 37 => (1, 0, 0, 38, 0)
  | 38 => (46, 10, 9, 41, 0)
  | 41 => (6, 0, 0, 43, 32)
  | 43 => (1, 0, 0, 44, 0)
  | 44 => (46, 10, 23, 47, 0)
  | 47 => (6, 0, 0, 50, 200)
  | 50 => (0, 1, 0, 51, 0)
  | 51 => (10, 0, 0, 52, 0)
  | 52 => (0, 2, 0, 53, 0)
  | 53 => (8, 0, 0, 54, 0)
  | 54 => (6, 0, 0, 55, 1)
  | 55 => (9, 0, 0, 56, 0)
  | 56 => (48, 0, 0, 57, 0)
  | 57 => (6, 0, 0, 58, 1)
  | 58 => (9, 0, 0, 59, 0)
  | 59 => (10, 0, 0, 60, 0)
  | 60 => (1, 0, 0, 61, 0)
  | 61 => (46, 10, 9, 64, 0)
  | 64 => (6, 0, 0, 66, 32)
  | 66 => (1, 0, 0, 67, 0)
  | 67 => (46, 10, 23, 70, 0)
  | 70 => (6, 0, 0, 73, 200)
  | 73 => (0, 1, 0, 74, 0)
  | 74 => (10, 0, 0, 75, 0)
  | 75 => (0, 2, 0, 76, 0)
  | 76 => (8, 0, 0, 77, 0)
  | 77 => (48, 0, 0, 78, 0)
  | 78 => (6, 0, 0, 79, 1)
  | 79 => (9, 0, 0, 80, 0)
  | 80 => (10, 0, 0, 81, 0)
  | 84 => (39, 92, 0, 87, 0)
  | 87 => (6, 0, 0, 89, (-10))
  | 89 => (0, 1, 0, 90, 0)
  | 90 => (9, 0, 0, 91, 0)
  | 91 => (53, 0, 0, 92, 0)
  | 92 => (7, 2, 0, 95, 1)
  | 95 => (33, 26, 0, 98, 0)
  | 98 => (7, 1, 0, 101, 1)
  | 101 => (33, 18, 0, 104, 0)
  | 104 => (1, 0, 0, 105, 0)
  | 105 => (6, 0, 0, 106, 0)
  | 106 => (47, 10, 30, 109, 0)
  | 109 => (6, 0, 0, 110, 0)
  | 110 => (3, 1, 0, 111, 0)
  | 111 => (0, 1, 0, 112, 0)
  | 112 => (6, 0, 0, 114, 8)
  | 114 => (43, 164, 0, 117, 0)
  | 117 => (6, 0, 0, 118, 0)
  | 118 => (3, 2, 0, 119, 0)
  | 119 => (0, 2, 0, 120, 0)
  | 120 => (1, 0, 0, 121, 0)
  | 121 => (46, 10, 24, 124, 0)
  | 124 => (0, 1, 0, 125, 0)
  | 125 => (48, 0, 0, 126, 0)
  | 126 => (43, 151, 0, 129, 0)
  | 129 => (1, 0, 0, 130, 0)
  | 130 => (1, 0, 0, 131, 0)
  | 131 => (46, 10, 23, 134, 0)
  | 134 => (6, 0, 0, 137, 200)
  | 137 => (0, 1, 0, 138, 0)
  | 138 => (10, 0, 0, 139, 0)
  | 139 => (0, 2, 0, 140, 0)
  | 140 => (8, 0, 0, 141, 0)
  | 141 => (48, 0, 0, 142, 0)
  | 145 => (7, 2, 0, 148, 1)
  | 148 => (33, 119, 0, 151, 0)
  | 151 => (1, 0, 0, 152, 0)
  | 152 => (46, 10, 24, 155, 0)
  | 155 => (0, 1, 0, 156, 0)
  | 156 => (6, 0, 0, 157, 0)
  | 157 => (49, 0, 0, 158, 0)
  | 158 => (7, 1, 0, 161, 1)
  | 161 => (33, 111, 0, 164, 0)
  | 164 => (1, 0, 0, 165, 0)
  | 165 => (6, 0, 0, 166, 0)
  | 169 => (6, 0, 0, 170, 0)
  | 170 => (3, 1, 0, 171, 0)
  | 171 => (0, 1, 0, 172, 0)
  | 172 => (1, 0, 0, 173, 0)
  | 173 => (46, 10, 30, 176, 0)
  | 176 => (43, 197, 0, 179, 0)
  | 179 => (1, 0, 0, 180, 0)
  | 180 => (46, 10, 29, 183, 0)
  | 183 => (0, 1, 0, 184, 0)
  | 184 => (1, 0, 0, 185, 0)
  | 185 => (46, 10, 28, 188, 0)
  | 188 => (0, 1, 0, 189, 0)
  | 189 => (48, 0, 0, 190, 0)
  | 190 => (49, 0, 0, 191, 0)
  | 191 => (7, 1, 0, 194, 1)
  | 194 => (33, 171, 0, 197, 0)
  | 197 => (1, 0, 0, 198, 0)
  | 198 => (1, 0, 0, 199, 0)
  | 199 => (46, 10, 30, 202, 0)
  | 202 => (47, 10, 31, 205, 0)
  | 205 => (1, 0, 0, 206, 0)
  | 209 => (53, 0, 0, 210, 0)
  | _ => (99, 0, 0, 0, 0)
def tX9_mergeAll (pc : Nat) : zI := if pc < 210 then tmX9_mergeAll pc else (99, 0, 0, 0, 0)
theorem tkX9_mergeAll : z_tab RX9 wsX9_mergeAll 3 (some .int) cX9_mergeAll 210 tX9_mergeAll := z_tab_of (tm := tmX9_mergeAll) (by decide +kernel)
theorem sX9_mergeAll_0 (lv : zL) (st : List Value) (w : zW) (nx K : Nat → zL → List Value → zW → Prop) (Rt : Option Value → zW → Prop) : z_st1 (tX9_mergeAll 0) 0 lv st w nx K Rt = (z_la lv 0 (fun x => nx 1 lv (.ref x :: st) w)) := id rfl
theorem sX9_mergeAll_1 (lv : zL) (st : List Value) (w : zW) (nx K : Nat → zL → List Value → zW → Prop) (Rt : Option Value → zW → Prop) : z_st1 (tX9_mergeAll 1) 1 lv st w nx K Rt = (nx 2 lv (.int (0 : Int32) :: st) w) := id rfl
theorem sX9_mergeAll_2 (lv : zL) (st : List Value) (w : zW) (nx K : Nat → zL → List Value → zW → Prop) (Rt : Option Value → zW → Prop) : z_st1 (tX9_mergeAll 2) 2 lv st w nx K Rt = (z_ia st (fun x i r => z_ob w x 10 (fun fs => 0 < fs.length ∧ nx 5 lv r (z_up w x (.inr (10, fs.set 0 (.int i))))))) := id rfl
theorem sX9_mergeAll_5 (lv : zL) (st : List Value) (w : zW) (nx K : Nat → zL → List Value → zW → Prop) (Rt : Option Value → zW → Prop) : z_st1 (tX9_mergeAll 5) 5 lv st w nx K Rt = (z_la lv 0 (fun x => nx 6 lv (.ref x :: st) w)) := id rfl
theorem sX9_mergeAll_6 (lv : zL) (st : List Value) (w : zW) (nx K : Nat → zL → List Value → zW → Prop) (Rt : Option Value → zW → Prop) : z_st1 (tX9_mergeAll 6) 6 lv st w nx K Rt = (z_1a st (fun x r => z_ob w x 10 (fun fs => z_fl fs 3 (fun u => nx 9 lv (u :: r) w)))) := id rfl
theorem sX9_mergeAll_9 (lv : zL) (st : List Value) (w : zW) (nx K : Nat → zL → List Value → zW → Prop) (Rt : Option Value → zW → Prop) : z_st1 (tX9_mergeAll 9) 9 lv st w nx K Rt = (nx 10 lv (.int (1 : Int32) :: st) w) := id rfl
theorem sX9_mergeAll_10 (lv : zL) (st : List Value) (w : zW) (nx K : Nat → zL → List Value → zW → Prop) (Rt : Option Value → zW → Prop) : z_st1 (tX9_mergeAll 10) 10 lv st w nx K Rt = (z_2i st (fun x y r => (¬ x = y → nx 16 lv r w) ∧ (x = y → nx 13 lv r w))) := id rfl
theorem sX9_mergeAll_13 (lv : zL) (st : List Value) (w : zW) (nx K : Nat → zL → List Value → zW → Prop) (Rt : Option Value → zW → Prop) : z_st1 (tX9_mergeAll 13) 13 lv st w nx K Rt = (nx 15 lv (.int (-5 : Int32) :: st) w) := id rfl
theorem sX9_mergeAll_15 (lv : zL) (st : List Value) (w : zW) (nx K : Nat → zL → List Value → zW → Prop) (Rt : Option Value → zW → Prop) : z_st1 (tX9_mergeAll 15) 15 lv st w nx K Rt = (z_e1 st (fun x => Rt (some (.int x)) w)) := id rfl
theorem sX9_mergeAll_16 (lv : zL) (st : List Value) (w : zW) (nx K : Nat → zL → List Value → zW → Prop) (Rt : Option Value → zW → Prop) : z_st1 (tX9_mergeAll 16) 16 lv st w nx K Rt = (nx 17 lv (.int (0 : Int32) :: st) w) := id rfl
theorem sX9_mergeAll_17 (lv : zL) (st : List Value) (w : zW) (nx K : Nat → zL → List Value → zW → Prop) (Rt : Option Value → zW → Prop) : z_st1 (tX9_mergeAll 17) 17 lv st w nx K Rt = (z_1i st (fun x r => z_ok1 lv 1 = true ∧ nx 18 (lv.set 1 (some (.int x))) r w)) := id rfl
theorem sX9_mergeAll_18 (lv : zL) (st : List Value) (w : zW) (nx K : Nat → zL → List Value → zW → Prop) (Rt : Option Value → zW → Prop) : z_st1 (tX9_mergeAll 18) 18 lv st w nx K Rt = (z_li lv 1 (fun x => nx 19 lv (.int x :: st) w)) := id rfl
theorem sX9_mergeAll_19 (lv : zL) (st : List Value) (w : zW) (nx K : Nat → zL → List Value → zW → Prop) (Rt : Option Value → zW → Prop) : z_st1 (tX9_mergeAll 19) 19 lv st w nx K Rt = (nx 21 lv (.int (8 : Int32) :: st) w) := id rfl
theorem sX9_mergeAll_21 (lv : zL) (st : List Value) (w : zW) (nx K : Nat → zL → List Value → zW → Prop) (Rt : Option Value → zW → Prop) : z_st1 (tX9_mergeAll 21) 21 lv st w nx K Rt = (z_2i st (fun x y r => (y ≤ x → nx 104 lv r w) ∧ (¬ y ≤ x → nx 24 lv r w))) := id rfl
theorem sX9_mergeAll_24 (lv : zL) (st : List Value) (w : zW) (nx K : Nat → zL → List Value → zW → Prop) (Rt : Option Value → zW → Prop) : z_st1 (tX9_mergeAll 24) 24 lv st w nx K Rt = (nx 25 lv (.int (1 : Int32) :: st) w) := id rfl
theorem sX9_mergeAll_25 (lv : zL) (st : List Value) (w : zW) (nx K : Nat → zL → List Value → zW → Prop) (Rt : Option Value → zW → Prop) : z_st1 (tX9_mergeAll 25) 25 lv st w nx K Rt = (z_1i st (fun x r => z_ok1 lv 2 = true ∧ nx 26 (lv.set 2 (some (.int x))) r w)) := id rfl
theorem sX9_mergeAll_26 (lv : zL) (st : List Value) (w : zW) (nx K : Nat → zL → List Value → zW → Prop) (Rt : Option Value → zW → Prop) : z_st1 (tX9_mergeAll 26) 26 lv st w nx K Rt = (z_li lv 2 (fun x => nx 27 lv (.int x :: st) w)) := id rfl
theorem sX9_mergeAll_27 (lv : zL) (st : List Value) (w : zW) (nx K : Nat → zL → List Value → zW → Prop) (Rt : Option Value → zW → Prop) : z_st1 (tX9_mergeAll 27) 27 lv st w nx K Rt = (z_la lv 0 (fun x => nx 28 lv (.ref x :: st) w)) := id rfl
theorem sX9_mergeAll_28 (lv : zL) (st : List Value) (w : zW) (nx K : Nat → zL → List Value → zW → Prop) (Rt : Option Value → zW → Prop) : z_st1 (tX9_mergeAll 28) 28 lv st w nx K Rt = (z_1a st (fun x r => z_ob w x 10 (fun fs => z_fl fs 24 (fun u => nx 31 lv (u :: r) w)))) := id rfl
theorem sX9_mergeAll_31 (lv : zL) (st : List Value) (w : zW) (nx K : Nat → zL → List Value → zW → Prop) (Rt : Option Value → zW → Prop) : z_st1 (tX9_mergeAll 31) 31 lv st w nx K Rt = (z_li lv 1 (fun x => nx 32 lv (.int x :: st) w)) := id rfl
theorem sX9_mergeAll_32 (lv : zL) (st : List Value) (w : zW) (nx K : Nat → zL → List Value → zW → Prop) (Rt : Option Value → zW → Prop) : z_st1 (tX9_mergeAll 32) 32 lv st w nx K Rt = (z_ia st (fun x i r => z_ar0 w x (fun m g => vp_in i m ∧ nx 33 lv (.int (g i.toNatClampNeg) :: r) w))) := id rfl
theorem sX9_mergeAll_33 (lv : zL) (st : List Value) (w : zW) (nx K : Nat → zL → List Value → zW → Prop) (Rt : Option Value → zW → Prop) : z_st1 (tX9_mergeAll 33) 33 lv st w nx K Rt = (z_2i st (fun x y r => (y ≤ x → nx 98 lv r w) ∧ (¬ y ≤ x → nx 36 lv r w))) := id rfl
theorem sX9_mergeAll_36 (lv : zL) (st : List Value) (w : zW) (nx K : Nat → zL → List Value → zW → Prop) (Rt : Option Value → zW → Prop) : z_st1 (tX9_mergeAll 36) 36 lv st w nx K Rt = (z_la lv 0 (fun x => nx 37 lv (.ref x :: st) w)) := id rfl
theorem sX9_mergeAll_37 (lv : zL) (st : List Value) (w : zW) (nx K : Nat → zL → List Value → zW → Prop) (Rt : Option Value → zW → Prop) : z_st1 (tX9_mergeAll 37) 37 lv st w nx K Rt = (z_la lv 0 (fun x => nx 38 lv (.ref x :: st) w)) := id rfl
theorem sX9_mergeAll_38 (lv : zL) (st : List Value) (w : zW) (nx K : Nat → zL → List Value → zW → Prop) (Rt : Option Value → zW → Prop) : z_st1 (tX9_mergeAll 38) 38 lv st w nx K Rt = (z_1a st (fun x r => z_ob w x 10 (fun fs => z_fl fs 9 (fun u => nx 41 lv (u :: r) w)))) := id rfl
theorem sX9_mergeAll_41 (lv : zL) (st : List Value) (w : zW) (nx K : Nat → zL → List Value → zW → Prop) (Rt : Option Value → zW → Prop) : z_st1 (tX9_mergeAll 41) 41 lv st w nx K Rt = (nx 43 lv (.int (32 : Int32) :: st) w) := id rfl
theorem sX9_mergeAll_43 (lv : zL) (st : List Value) (w : zW) (nx K : Nat → zL → List Value → zW → Prop) (Rt : Option Value → zW → Prop) : z_st1 (tX9_mergeAll 43) 43 lv st w nx K Rt = (z_la lv 0 (fun x => nx 44 lv (.ref x :: st) w)) := id rfl
theorem sX9_mergeAll_44 (lv : zL) (st : List Value) (w : zW) (nx K : Nat → zL → List Value → zW → Prop) (Rt : Option Value → zW → Prop) : z_st1 (tX9_mergeAll 44) 44 lv st w nx K Rt = (z_1a st (fun x r => z_ob w x 10 (fun fs => z_fl fs 23 (fun u => nx 47 lv (u :: r) w)))) := id rfl
theorem sX9_mergeAll_47 (lv : zL) (st : List Value) (w : zW) (nx K : Nat → zL → List Value → zW → Prop) (Rt : Option Value → zW → Prop) : z_st1 (tX9_mergeAll 47) 47 lv st w nx K Rt = (nx 50 lv (.int (200 : Int32) :: st) w) := id rfl
theorem sX9_mergeAll_50 (lv : zL) (st : List Value) (w : zW) (nx K : Nat → zL → List Value → zW → Prop) (Rt : Option Value → zW → Prop) : z_st1 (tX9_mergeAll 50) 50 lv st w nx K Rt = (z_li lv 1 (fun x => nx 51 lv (.int x :: st) w)) := id rfl
theorem sX9_mergeAll_51 (lv : zL) (st : List Value) (w : zW) (nx K : Nat → zL → List Value → zW → Prop) (Rt : Option Value → zW → Prop) : z_st1 (tX9_mergeAll 51) 51 lv st w nx K Rt = (z_2i st (fun x y r => nx 52 lv (.int (x * y) :: r) w)) := id rfl
theorem sX9_mergeAll_52 (lv : zL) (st : List Value) (w : zW) (nx K : Nat → zL → List Value → zW → Prop) (Rt : Option Value → zW → Prop) : z_st1 (tX9_mergeAll 52) 52 lv st w nx K Rt = (z_li lv 2 (fun x => nx 53 lv (.int x :: st) w)) := id rfl
theorem sX9_mergeAll_53 (lv : zL) (st : List Value) (w : zW) (nx K : Nat → zL → List Value → zW → Prop) (Rt : Option Value → zW → Prop) : z_st1 (tX9_mergeAll 53) 53 lv st w nx K Rt = (z_2i st (fun x y r => nx 54 lv (.int (x + y) :: r) w)) := id rfl
theorem sX9_mergeAll_54 (lv : zL) (st : List Value) (w : zW) (nx K : Nat → zL → List Value → zW → Prop) (Rt : Option Value → zW → Prop) : z_st1 (tX9_mergeAll 54) 54 lv st w nx K Rt = (nx 55 lv (.int (1 : Int32) :: st) w) := id rfl
theorem sX9_mergeAll_55 (lv : zL) (st : List Value) (w : zW) (nx K : Nat → zL → List Value → zW → Prop) (Rt : Option Value → zW → Prop) : z_st1 (tX9_mergeAll 55) 55 lv st w nx K Rt = (z_2i st (fun x y r => nx 56 lv (.int (x - y) :: r) w)) := id rfl
theorem sX9_mergeAll_56 (lv : zL) (st : List Value) (w : zW) (nx K : Nat → zL → List Value → zW → Prop) (Rt : Option Value → zW → Prop) : z_st1 (tX9_mergeAll 56) 56 lv st w nx K Rt = (z_ia st (fun x i r => z_ar0 w x (fun m g => vp_in i m ∧ nx 57 lv (.int (g i.toNatClampNeg) :: r) w))) := id rfl
theorem sX9_mergeAll_57 (lv : zL) (st : List Value) (w : zW) (nx K : Nat → zL → List Value → zW → Prop) (Rt : Option Value → zW → Prop) : z_st1 (tX9_mergeAll 57) 57 lv st w nx K Rt = (nx 58 lv (.int (1 : Int32) :: st) w) := id rfl
theorem sX9_mergeAll_58 (lv : zL) (st : List Value) (w : zW) (nx K : Nat → zL → List Value → zW → Prop) (Rt : Option Value → zW → Prop) : z_st1 (tX9_mergeAll 58) 58 lv st w nx K Rt = (z_2i st (fun x y r => nx 59 lv (.int (x - y) :: r) w)) := id rfl
theorem sX9_mergeAll_59 (lv : zL) (st : List Value) (w : zW) (nx K : Nat → zL → List Value → zW → Prop) (Rt : Option Value → zW → Prop) : z_st1 (tX9_mergeAll 59) 59 lv st w nx K Rt = (z_2i st (fun x y r => nx 60 lv (.int (x * y) :: r) w)) := id rfl
theorem sX9_mergeAll_60 (lv : zL) (st : List Value) (w : zW) (nx K : Nat → zL → List Value → zW → Prop) (Rt : Option Value → zW → Prop) : z_st1 (tX9_mergeAll 60) 60 lv st w nx K Rt = (z_la lv 0 (fun x => nx 61 lv (.ref x :: st) w)) := id rfl
theorem sX9_mergeAll_61 (lv : zL) (st : List Value) (w : zW) (nx K : Nat → zL → List Value → zW → Prop) (Rt : Option Value → zW → Prop) : z_st1 (tX9_mergeAll 61) 61 lv st w nx K Rt = (z_1a st (fun x r => z_ob w x 10 (fun fs => z_fl fs 9 (fun u => nx 64 lv (u :: r) w)))) := id rfl
theorem sX9_mergeAll_64 (lv : zL) (st : List Value) (w : zW) (nx K : Nat → zL → List Value → zW → Prop) (Rt : Option Value → zW → Prop) : z_st1 (tX9_mergeAll 64) 64 lv st w nx K Rt = (nx 66 lv (.int (32 : Int32) :: st) w) := id rfl
theorem sX9_mergeAll_66 (lv : zL) (st : List Value) (w : zW) (nx K : Nat → zL → List Value → zW → Prop) (Rt : Option Value → zW → Prop) : z_st1 (tX9_mergeAll 66) 66 lv st w nx K Rt = (z_la lv 0 (fun x => nx 67 lv (.ref x :: st) w)) := id rfl
theorem sX9_mergeAll_67 (lv : zL) (st : List Value) (w : zW) (nx K : Nat → zL → List Value → zW → Prop) (Rt : Option Value → zW → Prop) : z_st1 (tX9_mergeAll 67) 67 lv st w nx K Rt = (z_1a st (fun x r => z_ob w x 10 (fun fs => z_fl fs 23 (fun u => nx 70 lv (u :: r) w)))) := id rfl
theorem sX9_mergeAll_70 (lv : zL) (st : List Value) (w : zW) (nx K : Nat → zL → List Value → zW → Prop) (Rt : Option Value → zW → Prop) : z_st1 (tX9_mergeAll 70) 70 lv st w nx K Rt = (nx 73 lv (.int (200 : Int32) :: st) w) := id rfl
theorem sX9_mergeAll_73 (lv : zL) (st : List Value) (w : zW) (nx K : Nat → zL → List Value → zW → Prop) (Rt : Option Value → zW → Prop) : z_st1 (tX9_mergeAll 73) 73 lv st w nx K Rt = (z_li lv 1 (fun x => nx 74 lv (.int x :: st) w)) := id rfl
theorem sX9_mergeAll_74 (lv : zL) (st : List Value) (w : zW) (nx K : Nat → zL → List Value → zW → Prop) (Rt : Option Value → zW → Prop) : z_st1 (tX9_mergeAll 74) 74 lv st w nx K Rt = (z_2i st (fun x y r => nx 75 lv (.int (x * y) :: r) w)) := id rfl
theorem sX9_mergeAll_75 (lv : zL) (st : List Value) (w : zW) (nx K : Nat → zL → List Value → zW → Prop) (Rt : Option Value → zW → Prop) : z_st1 (tX9_mergeAll 75) 75 lv st w nx K Rt = (z_li lv 2 (fun x => nx 76 lv (.int x :: st) w)) := id rfl
theorem sX9_mergeAll_76 (lv : zL) (st : List Value) (w : zW) (nx K : Nat → zL → List Value → zW → Prop) (Rt : Option Value → zW → Prop) : z_st1 (tX9_mergeAll 76) 76 lv st w nx K Rt = (z_2i st (fun x y r => nx 77 lv (.int (x + y) :: r) w)) := id rfl
theorem sX9_mergeAll_77 (lv : zL) (st : List Value) (w : zW) (nx K : Nat → zL → List Value → zW → Prop) (Rt : Option Value → zW → Prop) : z_st1 (tX9_mergeAll 77) 77 lv st w nx K Rt = (z_ia st (fun x i r => z_ar0 w x (fun m g => vp_in i m ∧ nx 78 lv (.int (g i.toNatClampNeg) :: r) w))) := id rfl
theorem sX9_mergeAll_78 (lv : zL) (st : List Value) (w : zW) (nx K : Nat → zL → List Value → zW → Prop) (Rt : Option Value → zW → Prop) : z_st1 (tX9_mergeAll 78) 78 lv st w nx K Rt = (nx 79 lv (.int (1 : Int32) :: st) w) := id rfl
theorem sX9_mergeAll_79 (lv : zL) (st : List Value) (w : zW) (nx K : Nat → zL → List Value → zW → Prop) (Rt : Option Value → zW → Prop) : z_st1 (tX9_mergeAll 79) 79 lv st w nx K Rt = (z_2i st (fun x y r => nx 80 lv (.int (x - y) :: r) w)) := id rfl
theorem sX9_mergeAll_80 (lv : zL) (st : List Value) (w : zW) (nx K : Nat → zL → List Value → zW → Prop) (Rt : Option Value → zW → Prop) : z_st1 (tX9_mergeAll 80) 80 lv st w nx K Rt = (z_2i st (fun x y r => nx 81 lv (.int (x * y) :: r) w)) := id rfl
theorem sX9_mergeAll_84 (lv : zL) (st : List Value) (w : zW) (nx K : Nat → zL → List Value → zW → Prop) (Rt : Option Value → zW → Prop) : z_st1 (tX9_mergeAll 84) 84 lv st w nx K Rt = (z_1i st (fun x r => (x ≤ 0 → nx 92 lv r w) ∧ (¬ x ≤ 0 → nx 87 lv r w))) := id rfl
theorem sX9_mergeAll_87 (lv : zL) (st : List Value) (w : zW) (nx K : Nat → zL → List Value → zW → Prop) (Rt : Option Value → zW → Prop) : z_st1 (tX9_mergeAll 87) 87 lv st w nx K Rt = (nx 89 lv (.int (-10 : Int32) :: st) w) := id rfl
theorem sX9_mergeAll_89 (lv : zL) (st : List Value) (w : zW) (nx K : Nat → zL → List Value → zW → Prop) (Rt : Option Value → zW → Prop) : z_st1 (tX9_mergeAll 89) 89 lv st w nx K Rt = (z_li lv 1 (fun x => nx 90 lv (.int x :: st) w)) := id rfl
theorem sX9_mergeAll_90 (lv : zL) (st : List Value) (w : zW) (nx K : Nat → zL → List Value → zW → Prop) (Rt : Option Value → zW → Prop) : z_st1 (tX9_mergeAll 90) 90 lv st w nx K Rt = (z_2i st (fun x y r => nx 91 lv (.int (x - y) :: r) w)) := id rfl
theorem sX9_mergeAll_91 (lv : zL) (st : List Value) (w : zW) (nx K : Nat → zL → List Value → zW → Prop) (Rt : Option Value → zW → Prop) : z_st1 (tX9_mergeAll 91) 91 lv st w nx K Rt = (z_e1 st (fun x => Rt (some (.int x)) w)) := id rfl
theorem sX9_mergeAll_92 (lv : zL) (st : List Value) (w : zW) (nx K : Nat → zL → List Value → zW → Prop) (Rt : Option Value → zW → Prop) : z_st1 (tX9_mergeAll 92) 92 lv st w nx K Rt = (z_li lv 2 (fun x => z_ok1 lv 2 = true ∧ nx 95 (lv.set 2 (some (.int (x + (1 : Int32))))) st w)) := id rfl
theorem sX9_mergeAll_95 (lv : zL) (st : List Value) (w : zW) (nx K : Nat → zL → List Value → zW → Prop) (Rt : Option Value → zW → Prop) : z_st1 (tX9_mergeAll 95) 95 lv st w nx K Rt = (nx 26 lv st w) := id rfl
theorem sX9_mergeAll_98 (lv : zL) (st : List Value) (w : zW) (nx K : Nat → zL → List Value → zW → Prop) (Rt : Option Value → zW → Prop) : z_st1 (tX9_mergeAll 98) 98 lv st w nx K Rt = (z_li lv 1 (fun x => z_ok1 lv 1 = true ∧ nx 101 (lv.set 1 (some (.int (x + (1 : Int32))))) st w)) := id rfl
theorem sX9_mergeAll_101 (lv : zL) (st : List Value) (w : zW) (nx K : Nat → zL → List Value → zW → Prop) (Rt : Option Value → zW → Prop) : z_st1 (tX9_mergeAll 101) 101 lv st w nx K Rt = (nx 18 lv st w) := id rfl
theorem sX9_mergeAll_104 (lv : zL) (st : List Value) (w : zW) (nx K : Nat → zL → List Value → zW → Prop) (Rt : Option Value → zW → Prop) : z_st1 (tX9_mergeAll 104) 104 lv st w nx K Rt = (z_la lv 0 (fun x => nx 105 lv (.ref x :: st) w)) := id rfl
theorem sX9_mergeAll_105 (lv : zL) (st : List Value) (w : zW) (nx K : Nat → zL → List Value → zW → Prop) (Rt : Option Value → zW → Prop) : z_st1 (tX9_mergeAll 105) 105 lv st w nx K Rt = (nx 106 lv (.int (0 : Int32) :: st) w) := id rfl
theorem sX9_mergeAll_106 (lv : zL) (st : List Value) (w : zW) (nx K : Nat → zL → List Value → zW → Prop) (Rt : Option Value → zW → Prop) : z_st1 (tX9_mergeAll 106) 106 lv st w nx K Rt = (z_ia st (fun x i r => z_ob w x 10 (fun fs => 30 < fs.length ∧ nx 109 lv r (z_up w x (.inr (10, fs.set 30 (.int i))))))) := id rfl
theorem sX9_mergeAll_109 (lv : zL) (st : List Value) (w : zW) (nx K : Nat → zL → List Value → zW → Prop) (Rt : Option Value → zW → Prop) : z_st1 (tX9_mergeAll 109) 109 lv st w nx K Rt = (nx 110 lv (.int (0 : Int32) :: st) w) := id rfl
theorem sX9_mergeAll_110 (lv : zL) (st : List Value) (w : zW) (nx K : Nat → zL → List Value → zW → Prop) (Rt : Option Value → zW → Prop) : z_st1 (tX9_mergeAll 110) 110 lv st w nx K Rt = (z_1i st (fun x r => z_ok1 lv 1 = true ∧ nx 111 (lv.set 1 (some (.int x))) r w)) := id rfl
theorem sX9_mergeAll_111 (lv : zL) (st : List Value) (w : zW) (nx K : Nat → zL → List Value → zW → Prop) (Rt : Option Value → zW → Prop) : z_st1 (tX9_mergeAll 111) 111 lv st w nx K Rt = (z_li lv 1 (fun x => nx 112 lv (.int x :: st) w)) := id rfl
theorem sX9_mergeAll_112 (lv : zL) (st : List Value) (w : zW) (nx K : Nat → zL → List Value → zW → Prop) (Rt : Option Value → zW → Prop) : z_st1 (tX9_mergeAll 112) 112 lv st w nx K Rt = (nx 114 lv (.int (8 : Int32) :: st) w) := id rfl
theorem sX9_mergeAll_114 (lv : zL) (st : List Value) (w : zW) (nx K : Nat → zL → List Value → zW → Prop) (Rt : Option Value → zW → Prop) : z_st1 (tX9_mergeAll 114) 114 lv st w nx K Rt = (z_2i st (fun x y r => (y ≤ x → nx 164 lv r w) ∧ (¬ y ≤ x → nx 117 lv r w))) := id rfl
theorem sX9_mergeAll_117 (lv : zL) (st : List Value) (w : zW) (nx K : Nat → zL → List Value → zW → Prop) (Rt : Option Value → zW → Prop) : z_st1 (tX9_mergeAll 117) 117 lv st w nx K Rt = (nx 118 lv (.int (0 : Int32) :: st) w) := id rfl
theorem sX9_mergeAll_118 (lv : zL) (st : List Value) (w : zW) (nx K : Nat → zL → List Value → zW → Prop) (Rt : Option Value → zW → Prop) : z_st1 (tX9_mergeAll 118) 118 lv st w nx K Rt = (z_1i st (fun x r => z_ok1 lv 2 = true ∧ nx 119 (lv.set 2 (some (.int x))) r w)) := id rfl
theorem sX9_mergeAll_119 (lv : zL) (st : List Value) (w : zW) (nx K : Nat → zL → List Value → zW → Prop) (Rt : Option Value → zW → Prop) : z_st1 (tX9_mergeAll 119) 119 lv st w nx K Rt = (z_li lv 2 (fun x => nx 120 lv (.int x :: st) w)) := id rfl
theorem sX9_mergeAll_120 (lv : zL) (st : List Value) (w : zW) (nx K : Nat → zL → List Value → zW → Prop) (Rt : Option Value → zW → Prop) : z_st1 (tX9_mergeAll 120) 120 lv st w nx K Rt = (z_la lv 0 (fun x => nx 121 lv (.ref x :: st) w)) := id rfl
theorem sX9_mergeAll_121 (lv : zL) (st : List Value) (w : zW) (nx K : Nat → zL → List Value → zW → Prop) (Rt : Option Value → zW → Prop) : z_st1 (tX9_mergeAll 121) 121 lv st w nx K Rt = (z_1a st (fun x r => z_ob w x 10 (fun fs => z_fl fs 24 (fun u => nx 124 lv (u :: r) w)))) := id rfl
theorem sX9_mergeAll_124 (lv : zL) (st : List Value) (w : zW) (nx K : Nat → zL → List Value → zW → Prop) (Rt : Option Value → zW → Prop) : z_st1 (tX9_mergeAll 124) 124 lv st w nx K Rt = (z_li lv 1 (fun x => nx 125 lv (.int x :: st) w)) := id rfl
theorem sX9_mergeAll_125 (lv : zL) (st : List Value) (w : zW) (nx K : Nat → zL → List Value → zW → Prop) (Rt : Option Value → zW → Prop) : z_st1 (tX9_mergeAll 125) 125 lv st w nx K Rt = (z_ia st (fun x i r => z_ar0 w x (fun m g => vp_in i m ∧ nx 126 lv (.int (g i.toNatClampNeg) :: r) w))) := id rfl
theorem sX9_mergeAll_126 (lv : zL) (st : List Value) (w : zW) (nx K : Nat → zL → List Value → zW → Prop) (Rt : Option Value → zW → Prop) : z_st1 (tX9_mergeAll 126) 126 lv st w nx K Rt = (z_2i st (fun x y r => (y ≤ x → nx 151 lv r w) ∧ (¬ y ≤ x → nx 129 lv r w))) := id rfl
theorem sX9_mergeAll_129 (lv : zL) (st : List Value) (w : zW) (nx K : Nat → zL → List Value → zW → Prop) (Rt : Option Value → zW → Prop) : z_st1 (tX9_mergeAll 129) 129 lv st w nx K Rt = (z_la lv 0 (fun x => nx 130 lv (.ref x :: st) w)) := id rfl
theorem sX9_mergeAll_130 (lv : zL) (st : List Value) (w : zW) (nx K : Nat → zL → List Value → zW → Prop) (Rt : Option Value → zW → Prop) : z_st1 (tX9_mergeAll 130) 130 lv st w nx K Rt = (z_la lv 0 (fun x => nx 131 lv (.ref x :: st) w)) := id rfl
theorem sX9_mergeAll_131 (lv : zL) (st : List Value) (w : zW) (nx K : Nat → zL → List Value → zW → Prop) (Rt : Option Value → zW → Prop) : z_st1 (tX9_mergeAll 131) 131 lv st w nx K Rt = (z_1a st (fun x r => z_ob w x 10 (fun fs => z_fl fs 23 (fun u => nx 134 lv (u :: r) w)))) := id rfl
theorem sX9_mergeAll_134 (lv : zL) (st : List Value) (w : zW) (nx K : Nat → zL → List Value → zW → Prop) (Rt : Option Value → zW → Prop) : z_st1 (tX9_mergeAll 134) 134 lv st w nx K Rt = (nx 137 lv (.int (200 : Int32) :: st) w) := id rfl
theorem sX9_mergeAll_137 (lv : zL) (st : List Value) (w : zW) (nx K : Nat → zL → List Value → zW → Prop) (Rt : Option Value → zW → Prop) : z_st1 (tX9_mergeAll 137) 137 lv st w nx K Rt = (z_li lv 1 (fun x => nx 138 lv (.int x :: st) w)) := id rfl
theorem sX9_mergeAll_138 (lv : zL) (st : List Value) (w : zW) (nx K : Nat → zL → List Value → zW → Prop) (Rt : Option Value → zW → Prop) : z_st1 (tX9_mergeAll 138) 138 lv st w nx K Rt = (z_2i st (fun x y r => nx 139 lv (.int (x * y) :: r) w)) := id rfl
theorem sX9_mergeAll_139 (lv : zL) (st : List Value) (w : zW) (nx K : Nat → zL → List Value → zW → Prop) (Rt : Option Value → zW → Prop) : z_st1 (tX9_mergeAll 139) 139 lv st w nx K Rt = (z_li lv 2 (fun x => nx 140 lv (.int x :: st) w)) := id rfl
theorem sX9_mergeAll_140 (lv : zL) (st : List Value) (w : zW) (nx K : Nat → zL → List Value → zW → Prop) (Rt : Option Value → zW → Prop) : z_st1 (tX9_mergeAll 140) 140 lv st w nx K Rt = (z_2i st (fun x y r => nx 141 lv (.int (x + y) :: r) w)) := id rfl
theorem sX9_mergeAll_141 (lv : zL) (st : List Value) (w : zW) (nx K : Nat → zL → List Value → zW → Prop) (Rt : Option Value → zW → Prop) : z_st1 (tX9_mergeAll 141) 141 lv st w nx K Rt = (z_ia st (fun x i r => z_ar0 w x (fun m g => vp_in i m ∧ nx 142 lv (.int (g i.toNatClampNeg) :: r) w))) := id rfl
theorem sX9_mergeAll_145 (lv : zL) (st : List Value) (w : zW) (nx K : Nat → zL → List Value → zW → Prop) (Rt : Option Value → zW → Prop) : z_st1 (tX9_mergeAll 145) 145 lv st w nx K Rt = (z_li lv 2 (fun x => z_ok1 lv 2 = true ∧ nx 148 (lv.set 2 (some (.int (x + (1 : Int32))))) st w)) := id rfl
theorem sX9_mergeAll_148 (lv : zL) (st : List Value) (w : zW) (nx K : Nat → zL → List Value → zW → Prop) (Rt : Option Value → zW → Prop) : z_st1 (tX9_mergeAll 148) 148 lv st w nx K Rt = (nx 119 lv st w) := id rfl
theorem sX9_mergeAll_151 (lv : zL) (st : List Value) (w : zW) (nx K : Nat → zL → List Value → zW → Prop) (Rt : Option Value → zW → Prop) : z_st1 (tX9_mergeAll 151) 151 lv st w nx K Rt = (z_la lv 0 (fun x => nx 152 lv (.ref x :: st) w)) := id rfl
theorem sX9_mergeAll_152 (lv : zL) (st : List Value) (w : zW) (nx K : Nat → zL → List Value → zW → Prop) (Rt : Option Value → zW → Prop) : z_st1 (tX9_mergeAll 152) 152 lv st w nx K Rt = (z_1a st (fun x r => z_ob w x 10 (fun fs => z_fl fs 24 (fun u => nx 155 lv (u :: r) w)))) := id rfl
theorem sX9_mergeAll_155 (lv : zL) (st : List Value) (w : zW) (nx K : Nat → zL → List Value → zW → Prop) (Rt : Option Value → zW → Prop) : z_st1 (tX9_mergeAll 155) 155 lv st w nx K Rt = (z_li lv 1 (fun x => nx 156 lv (.int x :: st) w)) := id rfl
theorem sX9_mergeAll_156 (lv : zL) (st : List Value) (w : zW) (nx K : Nat → zL → List Value → zW → Prop) (Rt : Option Value → zW → Prop) : z_st1 (tX9_mergeAll 156) 156 lv st w nx K Rt = (nx 157 lv (.int (0 : Int32) :: st) w) := id rfl
theorem sX9_mergeAll_157 (lv : zL) (st : List Value) (w : zW) (nx K : Nat → zL → List Value → zW → Prop) (Rt : Option Value → zW → Prop) : z_st1 (tX9_mergeAll 157) 157 lv st w nx K Rt = (z_iia st (fun x i u r => z_ar0 w x (fun m g => vp_in i m ∧ nx 158 lv r (z_up w x (.inl (0, m, .inl (upd g i.toNatClampNeg u))))))) := id rfl
theorem sX9_mergeAll_158 (lv : zL) (st : List Value) (w : zW) (nx K : Nat → zL → List Value → zW → Prop) (Rt : Option Value → zW → Prop) : z_st1 (tX9_mergeAll 158) 158 lv st w nx K Rt = (z_li lv 1 (fun x => z_ok1 lv 1 = true ∧ nx 161 (lv.set 1 (some (.int (x + (1 : Int32))))) st w)) := id rfl
theorem sX9_mergeAll_161 (lv : zL) (st : List Value) (w : zW) (nx K : Nat → zL → List Value → zW → Prop) (Rt : Option Value → zW → Prop) : z_st1 (tX9_mergeAll 161) 161 lv st w nx K Rt = (nx 111 lv st w) := id rfl
theorem sX9_mergeAll_164 (lv : zL) (st : List Value) (w : zW) (nx K : Nat → zL → List Value → zW → Prop) (Rt : Option Value → zW → Prop) : z_st1 (tX9_mergeAll 164) 164 lv st w nx K Rt = (z_la lv 0 (fun x => nx 165 lv (.ref x :: st) w)) := id rfl
theorem sX9_mergeAll_165 (lv : zL) (st : List Value) (w : zW) (nx K : Nat → zL → List Value → zW → Prop) (Rt : Option Value → zW → Prop) : z_st1 (tX9_mergeAll 165) 165 lv st w nx K Rt = (nx 166 lv (.int (0 : Int32) :: st) w) := id rfl
theorem sX9_mergeAll_169 (lv : zL) (st : List Value) (w : zW) (nx K : Nat → zL → List Value → zW → Prop) (Rt : Option Value → zW → Prop) : z_st1 (tX9_mergeAll 169) 169 lv st w nx K Rt = (nx 170 lv (.int (0 : Int32) :: st) w) := id rfl
theorem sX9_mergeAll_170 (lv : zL) (st : List Value) (w : zW) (nx K : Nat → zL → List Value → zW → Prop) (Rt : Option Value → zW → Prop) : z_st1 (tX9_mergeAll 170) 170 lv st w nx K Rt = (z_1i st (fun x r => z_ok1 lv 1 = true ∧ nx 171 (lv.set 1 (some (.int x))) r w)) := id rfl
theorem sX9_mergeAll_171 (lv : zL) (st : List Value) (w : zW) (nx K : Nat → zL → List Value → zW → Prop) (Rt : Option Value → zW → Prop) : z_st1 (tX9_mergeAll 171) 171 lv st w nx K Rt = (z_li lv 1 (fun x => nx 172 lv (.int x :: st) w)) := id rfl
theorem sX9_mergeAll_172 (lv : zL) (st : List Value) (w : zW) (nx K : Nat → zL → List Value → zW → Prop) (Rt : Option Value → zW → Prop) : z_st1 (tX9_mergeAll 172) 172 lv st w nx K Rt = (z_la lv 0 (fun x => nx 173 lv (.ref x :: st) w)) := id rfl
theorem sX9_mergeAll_173 (lv : zL) (st : List Value) (w : zW) (nx K : Nat → zL → List Value → zW → Prop) (Rt : Option Value → zW → Prop) : z_st1 (tX9_mergeAll 173) 173 lv st w nx K Rt = (z_1a st (fun x r => z_ob w x 10 (fun fs => z_fl fs 30 (fun u => nx 176 lv (u :: r) w)))) := id rfl
theorem sX9_mergeAll_176 (lv : zL) (st : List Value) (w : zW) (nx K : Nat → zL → List Value → zW → Prop) (Rt : Option Value → zW → Prop) : z_st1 (tX9_mergeAll 176) 176 lv st w nx K Rt = (z_2i st (fun x y r => (y ≤ x → nx 197 lv r w) ∧ (¬ y ≤ x → nx 179 lv r w))) := id rfl
theorem sX9_mergeAll_179 (lv : zL) (st : List Value) (w : zW) (nx K : Nat → zL → List Value → zW → Prop) (Rt : Option Value → zW → Prop) : z_st1 (tX9_mergeAll 179) 179 lv st w nx K Rt = (z_la lv 0 (fun x => nx 180 lv (.ref x :: st) w)) := id rfl
theorem sX9_mergeAll_180 (lv : zL) (st : List Value) (w : zW) (nx K : Nat → zL → List Value → zW → Prop) (Rt : Option Value → zW → Prop) : z_st1 (tX9_mergeAll 180) 180 lv st w nx K Rt = (z_1a st (fun x r => z_ob w x 10 (fun fs => z_fl fs 29 (fun u => nx 183 lv (u :: r) w)))) := id rfl
theorem sX9_mergeAll_183 (lv : zL) (st : List Value) (w : zW) (nx K : Nat → zL → List Value → zW → Prop) (Rt : Option Value → zW → Prop) : z_st1 (tX9_mergeAll 183) 183 lv st w nx K Rt = (z_li lv 1 (fun x => nx 184 lv (.int x :: st) w)) := id rfl
theorem sX9_mergeAll_184 (lv : zL) (st : List Value) (w : zW) (nx K : Nat → zL → List Value → zW → Prop) (Rt : Option Value → zW → Prop) : z_st1 (tX9_mergeAll 184) 184 lv st w nx K Rt = (z_la lv 0 (fun x => nx 185 lv (.ref x :: st) w)) := id rfl
theorem sX9_mergeAll_185 (lv : zL) (st : List Value) (w : zW) (nx K : Nat → zL → List Value → zW → Prop) (Rt : Option Value → zW → Prop) : z_st1 (tX9_mergeAll 185) 185 lv st w nx K Rt = (z_1a st (fun x r => z_ob w x 10 (fun fs => z_fl fs 28 (fun u => nx 188 lv (u :: r) w)))) := id rfl
theorem sX9_mergeAll_188 (lv : zL) (st : List Value) (w : zW) (nx K : Nat → zL → List Value → zW → Prop) (Rt : Option Value → zW → Prop) : z_st1 (tX9_mergeAll 188) 188 lv st w nx K Rt = (z_li lv 1 (fun x => nx 189 lv (.int x :: st) w)) := id rfl
theorem sX9_mergeAll_189 (lv : zL) (st : List Value) (w : zW) (nx K : Nat → zL → List Value → zW → Prop) (Rt : Option Value → zW → Prop) : z_st1 (tX9_mergeAll 189) 189 lv st w nx K Rt = (z_ia st (fun x i r => z_ar0 w x (fun m g => vp_in i m ∧ nx 190 lv (.int (g i.toNatClampNeg) :: r) w))) := id rfl
theorem sX9_mergeAll_190 (lv : zL) (st : List Value) (w : zW) (nx K : Nat → zL → List Value → zW → Prop) (Rt : Option Value → zW → Prop) : z_st1 (tX9_mergeAll 190) 190 lv st w nx K Rt = (z_iia st (fun x i u r => z_ar0 w x (fun m g => vp_in i m ∧ nx 191 lv r (z_up w x (.inl (0, m, .inl (upd g i.toNatClampNeg u))))))) := id rfl
theorem sX9_mergeAll_191 (lv : zL) (st : List Value) (w : zW) (nx K : Nat → zL → List Value → zW → Prop) (Rt : Option Value → zW → Prop) : z_st1 (tX9_mergeAll 191) 191 lv st w nx K Rt = (z_li lv 1 (fun x => z_ok1 lv 1 = true ∧ nx 194 (lv.set 1 (some (.int (x + (1 : Int32))))) st w)) := id rfl
theorem sX9_mergeAll_194 (lv : zL) (st : List Value) (w : zW) (nx K : Nat → zL → List Value → zW → Prop) (Rt : Option Value → zW → Prop) : z_st1 (tX9_mergeAll 194) 194 lv st w nx K Rt = (nx 171 lv st w) := id rfl
theorem sX9_mergeAll_197 (lv : zL) (st : List Value) (w : zW) (nx K : Nat → zL → List Value → zW → Prop) (Rt : Option Value → zW → Prop) : z_st1 (tX9_mergeAll 197) 197 lv st w nx K Rt = (z_la lv 0 (fun x => nx 198 lv (.ref x :: st) w)) := id rfl
theorem sX9_mergeAll_198 (lv : zL) (st : List Value) (w : zW) (nx K : Nat → zL → List Value → zW → Prop) (Rt : Option Value → zW → Prop) : z_st1 (tX9_mergeAll 198) 198 lv st w nx K Rt = (z_la lv 0 (fun x => nx 199 lv (.ref x :: st) w)) := id rfl
theorem sX9_mergeAll_199 (lv : zL) (st : List Value) (w : zW) (nx K : Nat → zL → List Value → zW → Prop) (Rt : Option Value → zW → Prop) : z_st1 (tX9_mergeAll 199) 199 lv st w nx K Rt = (z_1a st (fun x r => z_ob w x 10 (fun fs => z_fl fs 30 (fun u => nx 202 lv (u :: r) w)))) := id rfl
theorem sX9_mergeAll_202 (lv : zL) (st : List Value) (w : zW) (nx K : Nat → zL → List Value → zW → Prop) (Rt : Option Value → zW → Prop) : z_st1 (tX9_mergeAll 202) 202 lv st w nx K Rt = (z_ia st (fun x i r => z_ob w x 10 (fun fs => 31 < fs.length ∧ nx 205 lv r (z_up w x (.inr (10, fs.set 31 (.int i))))))) := id rfl
theorem sX9_mergeAll_205 (lv : zL) (st : List Value) (w : zW) (nx K : Nat → zL → List Value → zW → Prop) (Rt : Option Value → zW → Prop) : z_st1 (tX9_mergeAll 205) 205 lv st w nx K Rt = (z_la lv 0 (fun x => nx 206 lv (.ref x :: st) w)) := id rfl
theorem sX9_mergeAll_209 (lv : zL) (st : List Value) (w : zW) (nx K : Nat → zL → List Value → zW → Prop) (Rt : Option Value → zW → Prop) : z_st1 (tX9_mergeAll 209) 209 lv st w nx K Rt = (z_e1 st (fun x => Rt (some (.int x)) w)) := id rfl
theorem sX9_mergeAll_81 (lv : zL) (st : List Value) (w : zW) (nx K : Nat → zL → List Value → zW → Prop) (Rt : Option Value → zW → Prop) : z_st1 (tX9_mergeAll 81) 81 lv st w nx K Rt = K 81 lv st w := id rfl
theorem sX9_mergeAll_142 (lv : zL) (st : List Value) (w : zW) (nx K : Nat → zL → List Value → zW → Prop) (Rt : Option Value → zW → Prop) : z_st1 (tX9_mergeAll 142) 142 lv st w nx K Rt = K 142 lv st w := id rfl
theorem sX9_mergeAll_166 (lv : zL) (st : List Value) (w : zW) (nx K : Nat → zL → List Value → zW → Prop) (Rt : Option Value → zW → Prop) : z_st1 (tX9_mergeAll 166) 166 lv st w nx K Rt = K 166 lv st w := id rfl
theorem sX9_mergeAll_206 (lv : zL) (st : List Value) (w : zW) (nx K : Nat → zL → List Value → zW → Prop) (Rt : Option Value → zW → Prop) : z_st1 (tX9_mergeAll 206) 206 lv st w nx K Rt = K 206 lv st w := id rfl
theorem dX9_mergeAll_81 : decode cX9_mergeAll 81 = .ok (.invokevirtual 123, 3) := by decide +kernel
theorem dX9_mergeAll_142 : decode cX9_mergeAll 142 = .ok (.invokevirtual 150, 3) := by decide +kernel
theorem dX9_mergeAll_166 : decode cX9_mergeAll 166 = .ok (.invokevirtual 161, 3) := by decide +kernel
theorem dX9_mergeAll_206 : decode cX9_mergeAll 206 = .ok (.invokevirtual 169, 3) := by decide +kernel

def tmX9_failed (pc : Nat) : zI := match pc with
  | 0 => (1, 0, 0, 1, 0)
  | 1 => (6, 0, 0, 2, 0)
  | 2 => (47, 10, 0, 5, 0)
  | 5 => (1, 0, 0, 6, 0)
  | 6 => (46, 10, 34, 9, 0)
  | 9 => (53, 0, 0, 10, 0)
  | _ => (99, 0, 0, 0, 0)
def tX9_failed (pc : Nat) : zI := if pc < 10 then tmX9_failed pc else (99, 0, 0, 0, 0)
theorem tkX9_failed : z_tab RX9 wsX9_failed 1 (some .int) cX9_failed 10 tX9_failed := z_tab_of (tm := tmX9_failed) (by decide +kernel)
theorem sX9_failed_0 (lv : zL) (st : List Value) (w : zW) (nx K : Nat → zL → List Value → zW → Prop) (Rt : Option Value → zW → Prop) : z_st1 (tX9_failed 0) 0 lv st w nx K Rt = (z_la lv 0 (fun x => nx 1 lv (.ref x :: st) w)) := id rfl
theorem sX9_failed_1 (lv : zL) (st : List Value) (w : zW) (nx K : Nat → zL → List Value → zW → Prop) (Rt : Option Value → zW → Prop) : z_st1 (tX9_failed 1) 1 lv st w nx K Rt = (nx 2 lv (.int (0 : Int32) :: st) w) := id rfl
theorem sX9_failed_2 (lv : zL) (st : List Value) (w : zW) (nx K : Nat → zL → List Value → zW → Prop) (Rt : Option Value → zW → Prop) : z_st1 (tX9_failed 2) 2 lv st w nx K Rt = (z_ia st (fun x i r => z_ob w x 10 (fun fs => 0 < fs.length ∧ nx 5 lv r (z_up w x (.inr (10, fs.set 0 (.int i))))))) := id rfl
theorem sX9_failed_5 (lv : zL) (st : List Value) (w : zW) (nx K : Nat → zL → List Value → zW → Prop) (Rt : Option Value → zW → Prop) : z_st1 (tX9_failed 5) 5 lv st w nx K Rt = (z_la lv 0 (fun x => nx 6 lv (.ref x :: st) w)) := id rfl
theorem sX9_failed_6 (lv : zL) (st : List Value) (w : zW) (nx K : Nat → zL → List Value → zW → Prop) (Rt : Option Value → zW → Prop) : z_st1 (tX9_failed 6) 6 lv st w nx K Rt = (z_1a st (fun x r => z_ob w x 10 (fun fs => z_fl fs 34 (fun u => nx 9 lv (u :: r) w)))) := id rfl
theorem sX9_failed_9 (lv : zL) (st : List Value) (w : zW) (nx K : Nat → zL → List Value → zW → Prop) (Rt : Option Value → zW → Prop) : z_st1 (tX9_failed 9) 9 lv st w nx K Rt = (z_e1 st (fun x => Rt (some (.int x)) w)) := id rfl

def tmX9_count (pc : Nat) : zI := match pc with
  | 0 => (1, 0, 0, 1, 0)
  | 1 => (6, 0, 0, 2, 0)
  | 2 => (47, 10, 0, 5, 0)
  | 5 => (0, 1, 0, 6, 0)
  | 60 => (1, 0, 0, 61, 0)
  | 61 => (46, 10, 8, 64, 0)
  | 64 => (53, 0, 0, 65, 0)
  | 65 => (1, 0, 0, 66, 0)
  | 66 => (46, 10, 11, 69, 0)
  | 69 => (53, 0, 0, 70, 0)
  | 70 => (1, 0, 0, 71, 0)
  | 71 => (46, 10, 3, 74, 0)
  | 74 => (53, 0, 0, 75, 0)
  | 75 => (1, 0, 0, 76, 0)
  | 76 => (46, 10, 22, 79, 0)
  | 79 => (53, 0, 0, 80, 0)
  | 80 => (1, 0, 0, 81, 0)
  | 81 => (46, 10, 35, 84, 0)
  | 84 => (0, 1, 0, 85, 0)
  | 85 => (48, 0, 0, 86, 0)
  | 86 => (53, 0, 0, 87, 0)
  | 87 => (6, 0, 0, 88, 0)
  | 88 => (3, 2, 0, 89, 0)
  | 89 => (6, 0, 0, 90, 0)
  | 90 => (3, 3, 0, 91, 0)
  | 91 => (0, 3, 0, 92, 0)
  | 92 => (6, 0, 0, 94, 8)
  | 94 => (43, 112, 0, 97, 0)
  | 97 => (0, 2, 0, 98, 0)
  | 98 => (1, 0, 0, 99, 0)
  | 99 => (46, 10, 24, 102, 0)
  | 102 => (0, 3, 0, 103, 0)
  | 103 => (48, 0, 0, 104, 0)
  | 104 => (8, 0, 0, 105, 0)
  | 105 => (3, 2, 0, 106, 0)
  | 106 => (7, 3, 0, 109, 1)
  | 109 => (33, 91, 0, 112, 0)
  | 112 => (0, 2, 0, 113, 0)
  | 113 => (53, 0, 0, 114, 0)
  | 114 => (6, 0, 0, 115, (-1))
  | 115 => (53, 0, 0, 116, 0)
  | _ => (99, 0, 0, 0, 0)
def tX9_count (pc : Nat) : zI := if pc < 116 then tmX9_count pc else (99, 0, 0, 0, 0)
theorem tkX9_count : z_tab RX9 wsX9_count 4 (some .int) cX9_count 116 tX9_count := z_tab_of (tm := tmX9_count) (by decide +kernel)
theorem sX9_count_0 (lv : zL) (st : List Value) (w : zW) (nx K : Nat → zL → List Value → zW → Prop) (Rt : Option Value → zW → Prop) : z_st1 (tX9_count 0) 0 lv st w nx K Rt = (z_la lv 0 (fun x => nx 1 lv (.ref x :: st) w)) := id rfl
theorem sX9_count_1 (lv : zL) (st : List Value) (w : zW) (nx K : Nat → zL → List Value → zW → Prop) (Rt : Option Value → zW → Prop) : z_st1 (tX9_count 1) 1 lv st w nx K Rt = (nx 2 lv (.int (0 : Int32) :: st) w) := id rfl
theorem sX9_count_2 (lv : zL) (st : List Value) (w : zW) (nx K : Nat → zL → List Value → zW → Prop) (Rt : Option Value → zW → Prop) : z_st1 (tX9_count 2) 2 lv st w nx K Rt = (z_ia st (fun x i r => z_ob w x 10 (fun fs => 0 < fs.length ∧ nx 5 lv r (z_up w x (.inr (10, fs.set 0 (.int i))))))) := id rfl
theorem sX9_count_5 (lv : zL) (st : List Value) (w : zW) (nx K : Nat → zL → List Value → zW → Prop) (Rt : Option Value → zW → Prop) : z_st1 (tX9_count 5) 5 lv st w nx K Rt = (z_li lv 1 (fun x => nx 6 lv (.int x :: st) w)) := id rfl
theorem sX9_count_60 (lv : zL) (st : List Value) (w : zW) (nx K : Nat → zL → List Value → zW → Prop) (Rt : Option Value → zW → Prop) : z_st1 (tX9_count 60) 60 lv st w nx K Rt = (z_la lv 0 (fun x => nx 61 lv (.ref x :: st) w)) := id rfl
theorem sX9_count_61 (lv : zL) (st : List Value) (w : zW) (nx K : Nat → zL → List Value → zW → Prop) (Rt : Option Value → zW → Prop) : z_st1 (tX9_count 61) 61 lv st w nx K Rt = (z_1a st (fun x r => z_ob w x 10 (fun fs => z_fl fs 8 (fun u => nx 64 lv (u :: r) w)))) := id rfl
theorem sX9_count_64 (lv : zL) (st : List Value) (w : zW) (nx K : Nat → zL → List Value → zW → Prop) (Rt : Option Value → zW → Prop) : z_st1 (tX9_count 64) 64 lv st w nx K Rt = (z_e1 st (fun x => Rt (some (.int x)) w)) := id rfl
theorem sX9_count_65 (lv : zL) (st : List Value) (w : zW) (nx K : Nat → zL → List Value → zW → Prop) (Rt : Option Value → zW → Prop) : z_st1 (tX9_count 65) 65 lv st w nx K Rt = (z_la lv 0 (fun x => nx 66 lv (.ref x :: st) w)) := id rfl
theorem sX9_count_66 (lv : zL) (st : List Value) (w : zW) (nx K : Nat → zL → List Value → zW → Prop) (Rt : Option Value → zW → Prop) : z_st1 (tX9_count 66) 66 lv st w nx K Rt = (z_1a st (fun x r => z_ob w x 10 (fun fs => z_fl fs 11 (fun u => nx 69 lv (u :: r) w)))) := id rfl
theorem sX9_count_69 (lv : zL) (st : List Value) (w : zW) (nx K : Nat → zL → List Value → zW → Prop) (Rt : Option Value → zW → Prop) : z_st1 (tX9_count 69) 69 lv st w nx K Rt = (z_e1 st (fun x => Rt (some (.int x)) w)) := id rfl
theorem sX9_count_70 (lv : zL) (st : List Value) (w : zW) (nx K : Nat → zL → List Value → zW → Prop) (Rt : Option Value → zW → Prop) : z_st1 (tX9_count 70) 70 lv st w nx K Rt = (z_la lv 0 (fun x => nx 71 lv (.ref x :: st) w)) := id rfl
theorem sX9_count_71 (lv : zL) (st : List Value) (w : zW) (nx K : Nat → zL → List Value → zW → Prop) (Rt : Option Value → zW → Prop) : z_st1 (tX9_count 71) 71 lv st w nx K Rt = (z_1a st (fun x r => z_ob w x 10 (fun fs => z_fl fs 3 (fun u => nx 74 lv (u :: r) w)))) := id rfl
theorem sX9_count_74 (lv : zL) (st : List Value) (w : zW) (nx K : Nat → zL → List Value → zW → Prop) (Rt : Option Value → zW → Prop) : z_st1 (tX9_count 74) 74 lv st w nx K Rt = (z_e1 st (fun x => Rt (some (.int x)) w)) := id rfl
theorem sX9_count_75 (lv : zL) (st : List Value) (w : zW) (nx K : Nat → zL → List Value → zW → Prop) (Rt : Option Value → zW → Prop) : z_st1 (tX9_count 75) 75 lv st w nx K Rt = (z_la lv 0 (fun x => nx 76 lv (.ref x :: st) w)) := id rfl
theorem sX9_count_76 (lv : zL) (st : List Value) (w : zW) (nx K : Nat → zL → List Value → zW → Prop) (Rt : Option Value → zW → Prop) : z_st1 (tX9_count 76) 76 lv st w nx K Rt = (z_1a st (fun x r => z_ob w x 10 (fun fs => z_fl fs 22 (fun u => nx 79 lv (u :: r) w)))) := id rfl
theorem sX9_count_79 (lv : zL) (st : List Value) (w : zW) (nx K : Nat → zL → List Value → zW → Prop) (Rt : Option Value → zW → Prop) : z_st1 (tX9_count 79) 79 lv st w nx K Rt = (z_e1 st (fun x => Rt (some (.int x)) w)) := id rfl
theorem sX9_count_80 (lv : zL) (st : List Value) (w : zW) (nx K : Nat → zL → List Value → zW → Prop) (Rt : Option Value → zW → Prop) : z_st1 (tX9_count 80) 80 lv st w nx K Rt = (z_la lv 0 (fun x => nx 81 lv (.ref x :: st) w)) := id rfl
theorem sX9_count_81 (lv : zL) (st : List Value) (w : zW) (nx K : Nat → zL → List Value → zW → Prop) (Rt : Option Value → zW → Prop) : z_st1 (tX9_count 81) 81 lv st w nx K Rt = (z_1a st (fun x r => z_ob w x 10 (fun fs => z_fl fs 35 (fun u => nx 84 lv (u :: r) w)))) := id rfl
theorem sX9_count_84 (lv : zL) (st : List Value) (w : zW) (nx K : Nat → zL → List Value → zW → Prop) (Rt : Option Value → zW → Prop) : z_st1 (tX9_count 84) 84 lv st w nx K Rt = (z_li lv 1 (fun x => nx 85 lv (.int x :: st) w)) := id rfl
theorem sX9_count_85 (lv : zL) (st : List Value) (w : zW) (nx K : Nat → zL → List Value → zW → Prop) (Rt : Option Value → zW → Prop) : z_st1 (tX9_count 85) 85 lv st w nx K Rt = (z_ia st (fun x i r => z_ar0 w x (fun m g => vp_in i m ∧ nx 86 lv (.int (g i.toNatClampNeg) :: r) w))) := id rfl
theorem sX9_count_86 (lv : zL) (st : List Value) (w : zW) (nx K : Nat → zL → List Value → zW → Prop) (Rt : Option Value → zW → Prop) : z_st1 (tX9_count 86) 86 lv st w nx K Rt = (z_e1 st (fun x => Rt (some (.int x)) w)) := id rfl
theorem sX9_count_87 (lv : zL) (st : List Value) (w : zW) (nx K : Nat → zL → List Value → zW → Prop) (Rt : Option Value → zW → Prop) : z_st1 (tX9_count 87) 87 lv st w nx K Rt = (nx 88 lv (.int (0 : Int32) :: st) w) := id rfl
theorem sX9_count_88 (lv : zL) (st : List Value) (w : zW) (nx K : Nat → zL → List Value → zW → Prop) (Rt : Option Value → zW → Prop) : z_st1 (tX9_count 88) 88 lv st w nx K Rt = (z_1i st (fun x r => z_ok1 lv 2 = true ∧ nx 89 (lv.set 2 (some (.int x))) r w)) := id rfl
theorem sX9_count_89 (lv : zL) (st : List Value) (w : zW) (nx K : Nat → zL → List Value → zW → Prop) (Rt : Option Value → zW → Prop) : z_st1 (tX9_count 89) 89 lv st w nx K Rt = (nx 90 lv (.int (0 : Int32) :: st) w) := id rfl
theorem sX9_count_90 (lv : zL) (st : List Value) (w : zW) (nx K : Nat → zL → List Value → zW → Prop) (Rt : Option Value → zW → Prop) : z_st1 (tX9_count 90) 90 lv st w nx K Rt = (z_1i st (fun x r => z_ok1 lv 3 = true ∧ nx 91 (lv.set 3 (some (.int x))) r w)) := id rfl
theorem sX9_count_91 (lv : zL) (st : List Value) (w : zW) (nx K : Nat → zL → List Value → zW → Prop) (Rt : Option Value → zW → Prop) : z_st1 (tX9_count 91) 91 lv st w nx K Rt = (z_li lv 3 (fun x => nx 92 lv (.int x :: st) w)) := id rfl
theorem sX9_count_92 (lv : zL) (st : List Value) (w : zW) (nx K : Nat → zL → List Value → zW → Prop) (Rt : Option Value → zW → Prop) : z_st1 (tX9_count 92) 92 lv st w nx K Rt = (nx 94 lv (.int (8 : Int32) :: st) w) := id rfl
theorem sX9_count_94 (lv : zL) (st : List Value) (w : zW) (nx K : Nat → zL → List Value → zW → Prop) (Rt : Option Value → zW → Prop) : z_st1 (tX9_count 94) 94 lv st w nx K Rt = (z_2i st (fun x y r => (y ≤ x → nx 112 lv r w) ∧ (¬ y ≤ x → nx 97 lv r w))) := id rfl
theorem sX9_count_97 (lv : zL) (st : List Value) (w : zW) (nx K : Nat → zL → List Value → zW → Prop) (Rt : Option Value → zW → Prop) : z_st1 (tX9_count 97) 97 lv st w nx K Rt = (z_li lv 2 (fun x => nx 98 lv (.int x :: st) w)) := id rfl
theorem sX9_count_98 (lv : zL) (st : List Value) (w : zW) (nx K : Nat → zL → List Value → zW → Prop) (Rt : Option Value → zW → Prop) : z_st1 (tX9_count 98) 98 lv st w nx K Rt = (z_la lv 0 (fun x => nx 99 lv (.ref x :: st) w)) := id rfl
theorem sX9_count_99 (lv : zL) (st : List Value) (w : zW) (nx K : Nat → zL → List Value → zW → Prop) (Rt : Option Value → zW → Prop) : z_st1 (tX9_count 99) 99 lv st w nx K Rt = (z_1a st (fun x r => z_ob w x 10 (fun fs => z_fl fs 24 (fun u => nx 102 lv (u :: r) w)))) := id rfl
theorem sX9_count_102 (lv : zL) (st : List Value) (w : zW) (nx K : Nat → zL → List Value → zW → Prop) (Rt : Option Value → zW → Prop) : z_st1 (tX9_count 102) 102 lv st w nx K Rt = (z_li lv 3 (fun x => nx 103 lv (.int x :: st) w)) := id rfl
theorem sX9_count_103 (lv : zL) (st : List Value) (w : zW) (nx K : Nat → zL → List Value → zW → Prop) (Rt : Option Value → zW → Prop) : z_st1 (tX9_count 103) 103 lv st w nx K Rt = (z_ia st (fun x i r => z_ar0 w x (fun m g => vp_in i m ∧ nx 104 lv (.int (g i.toNatClampNeg) :: r) w))) := id rfl
theorem sX9_count_104 (lv : zL) (st : List Value) (w : zW) (nx K : Nat → zL → List Value → zW → Prop) (Rt : Option Value → zW → Prop) : z_st1 (tX9_count 104) 104 lv st w nx K Rt = (z_2i st (fun x y r => nx 105 lv (.int (x + y) :: r) w)) := id rfl
theorem sX9_count_105 (lv : zL) (st : List Value) (w : zW) (nx K : Nat → zL → List Value → zW → Prop) (Rt : Option Value → zW → Prop) : z_st1 (tX9_count 105) 105 lv st w nx K Rt = (z_1i st (fun x r => z_ok1 lv 2 = true ∧ nx 106 (lv.set 2 (some (.int x))) r w)) := id rfl
theorem sX9_count_106 (lv : zL) (st : List Value) (w : zW) (nx K : Nat → zL → List Value → zW → Prop) (Rt : Option Value → zW → Prop) : z_st1 (tX9_count 106) 106 lv st w nx K Rt = (z_li lv 3 (fun x => z_ok1 lv 3 = true ∧ nx 109 (lv.set 3 (some (.int (x + (1 : Int32))))) st w)) := id rfl
theorem sX9_count_109 (lv : zL) (st : List Value) (w : zW) (nx K : Nat → zL → List Value → zW → Prop) (Rt : Option Value → zW → Prop) : z_st1 (tX9_count 109) 109 lv st w nx K Rt = (nx 91 lv st w) := id rfl
theorem sX9_count_112 (lv : zL) (st : List Value) (w : zW) (nx K : Nat → zL → List Value → zW → Prop) (Rt : Option Value → zW → Prop) : z_st1 (tX9_count 112) 112 lv st w nx K Rt = (z_li lv 2 (fun x => nx 113 lv (.int x :: st) w)) := id rfl
theorem sX9_count_113 (lv : zL) (st : List Value) (w : zW) (nx K : Nat → zL → List Value → zW → Prop) (Rt : Option Value → zW → Prop) : z_st1 (tX9_count 113) 113 lv st w nx K Rt = (z_e1 st (fun x => Rt (some (.int x)) w)) := id rfl
theorem sX9_count_114 (lv : zL) (st : List Value) (w : zW) (nx K : Nat → zL → List Value → zW → Prop) (Rt : Option Value → zW → Prop) : z_st1 (tX9_count 114) 114 lv st w nx K Rt = (nx 115 lv (.int (-1 : Int32) :: st) w) := id rfl
theorem sX9_count_115 (lv : zL) (st : List Value) (w : zW) (nx K : Nat → zL → List Value → zW → Prop) (Rt : Option Value → zW → Prop) : z_st1 (tX9_count 115) 115 lv st w nx K Rt = (z_e1 st (fun x => Rt (some (.int x)) w)) := id rfl
theorem sX9_count_6 (lv : zL) (st : List Value) (w : zW) (nx K : Nat → zL → List Value → zW → Prop) (Rt : Option Value → zW → Prop) : z_st1 (tX9_count 6) 6 lv st w nx K Rt = K 6 lv st w := id rfl
theorem dX9_count_6 : decode cX9_count 6 = .ok (.tableswitch 108 0 9 #[54, 59, 64, 69, 74, 74, 74, 74, 74, 81], 54) := by decide +kernel

def tmL_area (pc : Nat) : zI := match pc with
  | 0 => (1, 2, 0, 1, 0)
  | 1 => (6, 0, 0, 2, 0)
  | 2 => (1, 0, 0, 3, 0)
  | 3 => (0, 1, 0, 4, 0)
  | 7 => (25, 0, 0, 8, 0)
  | 8 => (64, 0, 0, 9, 0)
  | 9 => (33, 15, 0, 12, 0)
  | 12 => (4, 3, 0, 13, 0)
  | 13 => (6, 0, 0, 14, 1)
  | 14 => (53, 0, 0, 15, 0)
  | 15 => (6, 0, 0, 16, 0)
  | 16 => (53, 0, 0, 17, 0)
  | _ => (99, 0, 0, 0, 0)
def tL_area (pc : Nat) : zI := if pc < 17 then tmL_area pc else (99, 0, 0, 0, 0)
theorem tkL_area : z_tab RL wsL_area 4 (some .int) cL_area 17 tL_area := z_tab_of (tm := tmL_area) (by decide +kernel)
theorem sL_area_0 (lv : zL) (st : List Value) (w : zW) (nx K : Nat → zL → List Value → zW → Prop) (Rt : Option Value → zW → Prop) : z_st1 (tL_area 0) 0 lv st w nx K Rt = (z_la lv 2 (fun x => nx 1 lv (.ref x :: st) w)) := id rfl
theorem sL_area_1 (lv : zL) (st : List Value) (w : zW) (nx K : Nat → zL → List Value → zW → Prop) (Rt : Option Value → zW → Prop) : z_st1 (tL_area 1) 1 lv st w nx K Rt = (nx 2 lv (.int (0 : Int32) :: st) w) := id rfl
theorem sL_area_2 (lv : zL) (st : List Value) (w : zW) (nx K : Nat → zL → List Value → zW → Prop) (Rt : Option Value → zW → Prop) : z_st1 (tL_area 2) 2 lv st w nx K Rt = (z_la lv 0 (fun x => nx 3 lv (.ref x :: st) w)) := id rfl
theorem sL_area_3 (lv : zL) (st : List Value) (w : zW) (nx K : Nat → zL → List Value → zW → Prop) (Rt : Option Value → zW → Prop) : z_st1 (tL_area 3) 3 lv st w nx K Rt = (z_li lv 1 (fun x => nx 4 lv (.int x :: st) w)) := id rfl
theorem sL_area_7 (lv : zL) (st : List Value) (w : zW) (nx K : Nat → zL → List Value → zW → Prop) (Rt : Option Value → zW → Prop) : z_st1 (tL_area 7) 7 lv st w nx K Rt = (z_1i st (fun x r => nx 8 lv (.long x.toInt64 :: r) w)) := id rfl
theorem sL_area_8 (lv : zL) (st : List Value) (w : zW) (nx K : Nat → zL → List Value → zW → Prop) (Rt : Option Value → zW → Prop) : z_st1 (tL_area 8) 8 lv st w nx K Rt = (z_lia st (fun x i u r => z_ar2 w x (fun m g => vp_in i m ∧ nx 9 lv r (z_up w x (.inl (2, m, .inr (.inl (vp_updL g i.toNatClampNeg u)))))))) := id rfl
theorem sL_area_9 (lv : zL) (st : List Value) (w : zW) (nx K : Nat → zL → List Value → zW → Prop) (Rt : Option Value → zW → Prop) : z_st1 (tL_area 9) 9 lv st w nx K Rt = (nx 15 lv st w) := id rfl
theorem sL_area_12 (lv : zL) (st : List Value) (w : zW) (nx K : Nat → zL → List Value → zW → Prop) (Rt : Option Value → zW → Prop) : z_st1 (tL_area 12) 12 lv st w nx K Rt = (z_1a st (fun x r => z_ok1 lv 3 = true ∧ nx 13 (lv.set 3 (some (.ref x))) r w)) := id rfl
theorem sL_area_13 (lv : zL) (st : List Value) (w : zW) (nx K : Nat → zL → List Value → zW → Prop) (Rt : Option Value → zW → Prop) : z_st1 (tL_area 13) 13 lv st w nx K Rt = (nx 14 lv (.int (1 : Int32) :: st) w) := id rfl
theorem sL_area_14 (lv : zL) (st : List Value) (w : zW) (nx K : Nat → zL → List Value → zW → Prop) (Rt : Option Value → zW → Prop) : z_st1 (tL_area 14) 14 lv st w nx K Rt = (z_e1 st (fun x => Rt (some (.int x)) w)) := id rfl
theorem sL_area_15 (lv : zL) (st : List Value) (w : zW) (nx K : Nat → zL → List Value → zW → Prop) (Rt : Option Value → zW → Prop) : z_st1 (tL_area 15) 15 lv st w nx K Rt = (nx 16 lv (.int (0 : Int32) :: st) w) := id rfl
theorem sL_area_16 (lv : zL) (st : List Value) (w : zW) (nx K : Nat → zL → List Value → zW → Prop) (Rt : Option Value → zW → Prop) : z_st1 (tL_area 16) 16 lv st w nx K Rt = (z_e1 st (fun x => Rt (some (.int x)) w)) := id rfl
theorem sL_area_4 (lv : zL) (st : List Value) (w : zW) (nx K : Nat → zL → List Value → zW → Prop) (Rt : Option Value → zW → Prop) : z_st1 (tL_area 4) 4 lv st w nx K Rt = K 4 lv st w := id rfl
theorem dL_area_4 : decode cL_area 4 = .ok (.invokevirtual 7, 3) := by decide +kernel

def tmL_sort (pc : Nat) : zI := match pc with
  | 0 => (1, 2, 0, 1, 0)
  | 1 => (6, 0, 0, 2, 0)
  | 2 => (1, 0, 0, 3, 0)
  | 3 => (0, 1, 0, 4, 0)
  | 7 => (25, 0, 0, 8, 0)
  | 8 => (64, 0, 0, 9, 0)
  | 9 => (33, 15, 0, 12, 0)
  | 12 => (4, 3, 0, 13, 0)
  | 13 => (6, 0, 0, 14, 1)
  | 14 => (53, 0, 0, 15, 0)
  | 15 => (6, 0, 0, 16, 0)
  | 16 => (53, 0, 0, 17, 0)
  | _ => (99, 0, 0, 0, 0)
def tL_sort (pc : Nat) : zI := if pc < 17 then tmL_sort pc else (99, 0, 0, 0, 0)
theorem tkL_sort : z_tab RL wsL_sort 4 (some .int) cL_sort 17 tL_sort := z_tab_of (tm := tmL_sort) (by decide +kernel)
theorem sL_sort_0 (lv : zL) (st : List Value) (w : zW) (nx K : Nat → zL → List Value → zW → Prop) (Rt : Option Value → zW → Prop) : z_st1 (tL_sort 0) 0 lv st w nx K Rt = (z_la lv 2 (fun x => nx 1 lv (.ref x :: st) w)) := id rfl
theorem sL_sort_1 (lv : zL) (st : List Value) (w : zW) (nx K : Nat → zL → List Value → zW → Prop) (Rt : Option Value → zW → Prop) : z_st1 (tL_sort 1) 1 lv st w nx K Rt = (nx 2 lv (.int (0 : Int32) :: st) w) := id rfl
theorem sL_sort_2 (lv : zL) (st : List Value) (w : zW) (nx K : Nat → zL → List Value → zW → Prop) (Rt : Option Value → zW → Prop) : z_st1 (tL_sort 2) 2 lv st w nx K Rt = (z_la lv 0 (fun x => nx 3 lv (.ref x :: st) w)) := id rfl
theorem sL_sort_3 (lv : zL) (st : List Value) (w : zW) (nx K : Nat → zL → List Value → zW → Prop) (Rt : Option Value → zW → Prop) : z_st1 (tL_sort 3) 3 lv st w nx K Rt = (z_li lv 1 (fun x => nx 4 lv (.int x :: st) w)) := id rfl
theorem sL_sort_7 (lv : zL) (st : List Value) (w : zW) (nx K : Nat → zL → List Value → zW → Prop) (Rt : Option Value → zW → Prop) : z_st1 (tL_sort 7) 7 lv st w nx K Rt = (z_1i st (fun x r => nx 8 lv (.long x.toInt64 :: r) w)) := id rfl
theorem sL_sort_8 (lv : zL) (st : List Value) (w : zW) (nx K : Nat → zL → List Value → zW → Prop) (Rt : Option Value → zW → Prop) : z_st1 (tL_sort 8) 8 lv st w nx K Rt = (z_lia st (fun x i u r => z_ar2 w x (fun m g => vp_in i m ∧ nx 9 lv r (z_up w x (.inl (2, m, .inr (.inl (vp_updL g i.toNatClampNeg u)))))))) := id rfl
theorem sL_sort_9 (lv : zL) (st : List Value) (w : zW) (nx K : Nat → zL → List Value → zW → Prop) (Rt : Option Value → zW → Prop) : z_st1 (tL_sort 9) 9 lv st w nx K Rt = (nx 15 lv st w) := id rfl
theorem sL_sort_12 (lv : zL) (st : List Value) (w : zW) (nx K : Nat → zL → List Value → zW → Prop) (Rt : Option Value → zW → Prop) : z_st1 (tL_sort 12) 12 lv st w nx K Rt = (z_1a st (fun x r => z_ok1 lv 3 = true ∧ nx 13 (lv.set 3 (some (.ref x))) r w)) := id rfl
theorem sL_sort_13 (lv : zL) (st : List Value) (w : zW) (nx K : Nat → zL → List Value → zW → Prop) (Rt : Option Value → zW → Prop) : z_st1 (tL_sort 13) 13 lv st w nx K Rt = (nx 14 lv (.int (1 : Int32) :: st) w) := id rfl
theorem sL_sort_14 (lv : zL) (st : List Value) (w : zW) (nx K : Nat → zL → List Value → zW → Prop) (Rt : Option Value → zW → Prop) : z_st1 (tL_sort 14) 14 lv st w nx K Rt = (z_e1 st (fun x => Rt (some (.int x)) w)) := id rfl
theorem sL_sort_15 (lv : zL) (st : List Value) (w : zW) (nx K : Nat → zL → List Value → zW → Prop) (Rt : Option Value → zW → Prop) : z_st1 (tL_sort 15) 15 lv st w nx K Rt = (nx 16 lv (.int (0 : Int32) :: st) w) := id rfl
theorem sL_sort_16 (lv : zL) (st : List Value) (w : zW) (nx K : Nat → zL → List Value → zW → Prop) (Rt : Option Value → zW → Prop) : z_st1 (tL_sort 16) 16 lv st w nx K Rt = (z_e1 st (fun x => Rt (some (.int x)) w)) := id rfl
theorem sL_sort_4 (lv : zL) (st : List Value) (w : zW) (nx K : Nat → zL → List Value → zW → Prop) (Rt : Option Value → zW → Prop) : z_st1 (tL_sort 4) 4 lv st w nx K Rt = K 4 lv st w := id rfl
theorem dL_sort_4 : decode cL_sort 4 = .ok (.invokevirtual 15, 3) := by decide +kernel
