theorem z_tab_of {own : String} {Ts : List Cond} {nL : Nat} {ret : Option FieldType} {cc : ByteArray} {N : Nat} {tm : Nat → zI} (h : ∀ pc, pc < N → z_ck own Ts nL ret cc pc (tm pc) = true) : z_tab own Ts nL ret cc N (fun pc => if pc < N then tm pc else (99, 0, 0, 0, 0)) := by
  intro pc
  dsimp only
  by_cases hp : pc < N
  · rw [if_pos hp]; exact h pc hp
  · rw [if_neg hp]; rfl
def tmX0_init (pc : Nat) : zI := match pc with
  | 0 => (1, 0, 0, 1, 0)
  | 4 => (1, 0, 0, 5, 0)
  | 5 => (6, 0, 0, 6, 4)
  | 6 => (47, 1, 1, 9, 0)
  | 9 => (55, 0, 0, 10, 0)
  | _ => (99, 0, 0, 0, 0)
def tX0_init (pc : Nat) : zI := if pc < 10 then tmX0_init pc else (99, 0, 0, 0, 0)
theorem tkX0_init : z_tab RX0 wsX0_init 1 none cX0_init 10 tX0_init := z_tab_of (tm := tmX0_init) (by decide +kernel)
theorem sX0_init_0 (lv : zL) (st : List Value) (w : zW) (nx K : Nat → zL → List Value → zW → Prop) (Rt : Option Value → zW → Prop) : z_st1 (tX0_init 0) 0 lv st w nx K Rt = (z_la lv 0 (fun x => nx 1 lv (.ref x :: st) w)) := id rfl
theorem sX0_init_4 (lv : zL) (st : List Value) (w : zW) (nx K : Nat → zL → List Value → zW → Prop) (Rt : Option Value → zW → Prop) : z_st1 (tX0_init 4) 4 lv st w nx K Rt = (z_la lv 0 (fun x => nx 5 lv (.ref x :: st) w)) := id rfl
theorem sX0_init_5 (lv : zL) (st : List Value) (w : zW) (nx K : Nat → zL → List Value → zW → Prop) (Rt : Option Value → zW → Prop) : z_st1 (tX0_init 5) 5 lv st w nx K Rt = (nx 6 lv (.int (4 : Int32) :: st) w) := id rfl
theorem sX0_init_6 (lv : zL) (st : List Value) (w : zW) (nx K : Nat → zL → List Value → zW → Prop) (Rt : Option Value → zW → Prop) : z_st1 (tX0_init 6) 6 lv st w nx K Rt = (z_ia st (fun x i r => z_ob w x 1 (fun fs => 1 < fs.length ∧ nx 9 lv r (z_up w x (.inr (1, fs.set 1 (.int i))))))) := id rfl
theorem sX0_init_9 (lv : zL) (st : List Value) (w : zW) (nx K : Nat → zL → List Value → zW → Prop) (Rt : Option Value → zW → Prop) : z_st1 (tX0_init 9) 9 lv st w nx K Rt = (z_e0 st (Rt none w)) := id rfl
theorem sX0_init_1 (lv : zL) (st : List Value) (w : zW) (nx K : Nat → zL → List Value → zW → Prop) (Rt : Option Value → zW → Prop) : z_st1 (tX0_init 1) 1 lv st w nx K Rt = K 1 lv st w := id rfl
theorem dX0_init_1 : decode cX0_init 1 = .ok (.invokespecial 1, 3) := by decide +kernel

def tmX0_tell (pc : Nat) : zI := match pc with
  | 0 => (1, 0, 0, 1, 0)
  | 1 => (0, 1, 0, 2, 0)
  | 2 => (47, 1, 0, 5, 0)
  | 5 => (1, 0, 0, 6, 0)
  | 6 => (0, 2, 0, 7, 0)
  | 7 => (47, 1, 1, 10, 0)
  | 10 => (1, 0, 0, 11, 0)
  | 11 => (0, 3, 0, 12, 0)
  | 12 => (47, 1, 2, 15, 0)
  | 15 => (55, 0, 0, 16, 0)
  | _ => (99, 0, 0, 0, 0)
def tX0_tell (pc : Nat) : zI := if pc < 16 then tmX0_tell pc else (99, 0, 0, 0, 0)
theorem tkX0_tell : z_tab RX0 wsX0_tell 4 none cX0_tell 16 tX0_tell := z_tab_of (tm := tmX0_tell) (by decide +kernel)
theorem sX0_tell_0 (lv : zL) (st : List Value) (w : zW) (nx K : Nat → zL → List Value → zW → Prop) (Rt : Option Value → zW → Prop) : z_st1 (tX0_tell 0) 0 lv st w nx K Rt = (z_la lv 0 (fun x => nx 1 lv (.ref x :: st) w)) := id rfl
theorem sX0_tell_1 (lv : zL) (st : List Value) (w : zW) (nx K : Nat → zL → List Value → zW → Prop) (Rt : Option Value → zW → Prop) : z_st1 (tX0_tell 1) 1 lv st w nx K Rt = (z_li lv 1 (fun x => nx 2 lv (.int x :: st) w)) := id rfl
theorem sX0_tell_2 (lv : zL) (st : List Value) (w : zW) (nx K : Nat → zL → List Value → zW → Prop) (Rt : Option Value → zW → Prop) : z_st1 (tX0_tell 2) 2 lv st w nx K Rt = (z_ia st (fun x i r => z_ob w x 1 (fun fs => 0 < fs.length ∧ nx 5 lv r (z_up w x (.inr (1, fs.set 0 (.int i))))))) := id rfl
theorem sX0_tell_5 (lv : zL) (st : List Value) (w : zW) (nx K : Nat → zL → List Value → zW → Prop) (Rt : Option Value → zW → Prop) : z_st1 (tX0_tell 5) 5 lv st w nx K Rt = (z_la lv 0 (fun x => nx 6 lv (.ref x :: st) w)) := id rfl
theorem sX0_tell_6 (lv : zL) (st : List Value) (w : zW) (nx K : Nat → zL → List Value → zW → Prop) (Rt : Option Value → zW → Prop) : z_st1 (tX0_tell 6) 6 lv st w nx K Rt = (z_li lv 2 (fun x => nx 7 lv (.int x :: st) w)) := id rfl
theorem sX0_tell_7 (lv : zL) (st : List Value) (w : zW) (nx K : Nat → zL → List Value → zW → Prop) (Rt : Option Value → zW → Prop) : z_st1 (tX0_tell 7) 7 lv st w nx K Rt = (z_ia st (fun x i r => z_ob w x 1 (fun fs => 1 < fs.length ∧ nx 10 lv r (z_up w x (.inr (1, fs.set 1 (.int i))))))) := id rfl
theorem sX0_tell_10 (lv : zL) (st : List Value) (w : zW) (nx K : Nat → zL → List Value → zW → Prop) (Rt : Option Value → zW → Prop) : z_st1 (tX0_tell 10) 10 lv st w nx K Rt = (z_la lv 0 (fun x => nx 11 lv (.ref x :: st) w)) := id rfl
theorem sX0_tell_11 (lv : zL) (st : List Value) (w : zW) (nx K : Nat → zL → List Value → zW → Prop) (Rt : Option Value → zW → Prop) : z_st1 (tX0_tell 11) 11 lv st w nx K Rt = (z_li lv 3 (fun x => nx 12 lv (.int x :: st) w)) := id rfl
theorem sX0_tell_12 (lv : zL) (st : List Value) (w : zW) (nx K : Nat → zL → List Value → zW → Prop) (Rt : Option Value → zW → Prop) : z_st1 (tX0_tell 12) 12 lv st w nx K Rt = (z_ia st (fun x i r => z_ob w x 1 (fun fs => 2 < fs.length ∧ nx 15 lv r (z_up w x (.inr (1, fs.set 2 (.int i))))))) := id rfl
theorem sX0_tell_15 (lv : zL) (st : List Value) (w : zW) (nx K : Nat → zL → List Value → zW → Prop) (Rt : Option Value → zW → Prop) : z_st1 (tX0_tell 15) 15 lv st w nx K Rt = (z_e0 st (Rt none w)) := id rfl

def tmX0_letsThrough (pc : Nat) : zI := match pc with
  | 0 => (1, 1, 0, 1, 0)
  | 1 => (0, 2, 0, 2, 0)
  | 2 => (1, 0, 0, 3, 0)
  | 3 => (46, 1, 0, 6, 0)
  | 9 => (3, 3, 0, 10, 0)
  | 10 => (1, 0, 0, 11, 0)
  | 11 => (46, 1, 1, 14, 0)
  | 44 => (0, 3, 0, 45, 0)
  | 45 => (1, 0, 0, 46, 0)
  | 46 => (46, 1, 2, 49, 0)
  | 49 => (41, 56, 0, 52, 0)
  | 52 => (6, 0, 0, 53, 1)
  | 53 => (33, 57, 0, 56, 0)
  | 56 => (6, 0, 0, 57, 0)
  | 57 => (58, 0, 0, 58, 0)
  | 58 => (0, 3, 0, 59, 0)
  | 59 => (1, 0, 0, 60, 0)
  | 60 => (46, 1, 2, 63, 0)
  | 63 => (40, 70, 0, 66, 0)
  | 66 => (6, 0, 0, 67, 1)
  | 67 => (33, 71, 0, 70, 0)
  | 70 => (6, 0, 0, 71, 0)
  | 71 => (58, 0, 0, 72, 0)
  | 72 => (0, 3, 0, 73, 0)
  | 73 => (1, 0, 0, 74, 0)
  | 74 => (46, 1, 2, 77, 0)
  | 77 => (43, 84, 0, 80, 0)
  | 80 => (6, 0, 0, 81, 1)
  | 81 => (33, 85, 0, 84, 0)
  | 84 => (6, 0, 0, 85, 0)
  | 85 => (58, 0, 0, 86, 0)
  | 86 => (0, 3, 0, 87, 0)
  | 87 => (1, 0, 0, 88, 0)
  | 88 => (46, 1, 2, 91, 0)
  | 91 => (45, 98, 0, 94, 0)
  | 94 => (6, 0, 0, 95, 1)
  | 95 => (33, 99, 0, 98, 0)
  | 98 => (6, 0, 0, 99, 0)
  | 99 => (58, 0, 0, 100, 0)
  | 100 => (6, 0, 0, 101, 1)
  | 101 => (58, 0, 0, 102, 0)
  | _ => (99, 0, 0, 0, 0)
def tX0_letsThrough (pc : Nat) : zI := if pc < 102 then tmX0_letsThrough pc else (99, 0, 0, 0, 0)
theorem tkX0_letsThrough : z_tab RX0 wsX0_letsThrough 4 (some .boolean) cX0_letsThrough 102 tX0_letsThrough := z_tab_of (tm := tmX0_letsThrough) (by decide +kernel)
theorem sX0_letsThrough_0 (lv : zL) (st : List Value) (w : zW) (nx K : Nat → zL → List Value → zW → Prop) (Rt : Option Value → zW → Prop) : z_st1 (tX0_letsThrough 0) 0 lv st w nx K Rt = (z_la lv 1 (fun x => nx 1 lv (.ref x :: st) w)) := id rfl
theorem sX0_letsThrough_1 (lv : zL) (st : List Value) (w : zW) (nx K : Nat → zL → List Value → zW → Prop) (Rt : Option Value → zW → Prop) : z_st1 (tX0_letsThrough 1) 1 lv st w nx K Rt = (z_li lv 2 (fun x => nx 2 lv (.int x :: st) w)) := id rfl
theorem sX0_letsThrough_2 (lv : zL) (st : List Value) (w : zW) (nx K : Nat → zL → List Value → zW → Prop) (Rt : Option Value → zW → Prop) : z_st1 (tX0_letsThrough 2) 2 lv st w nx K Rt = (z_la lv 0 (fun x => nx 3 lv (.ref x :: st) w)) := id rfl
theorem sX0_letsThrough_3 (lv : zL) (st : List Value) (w : zW) (nx K : Nat → zL → List Value → zW → Prop) (Rt : Option Value → zW → Prop) : z_st1 (tX0_letsThrough 3) 3 lv st w nx K Rt = (z_1a st (fun x r => z_ob w x 1 (fun fs => z_fl fs 0 (fun u => nx 6 lv (u :: r) w)))) := id rfl
theorem sX0_letsThrough_9 (lv : zL) (st : List Value) (w : zW) (nx K : Nat → zL → List Value → zW → Prop) (Rt : Option Value → zW → Prop) : z_st1 (tX0_letsThrough 9) 9 lv st w nx K Rt = (z_1i st (fun x r => z_ok1 lv 3 = true ∧ nx 10 (lv.set 3 (some (.int x))) r w)) := id rfl
theorem sX0_letsThrough_10 (lv : zL) (st : List Value) (w : zW) (nx K : Nat → zL → List Value → zW → Prop) (Rt : Option Value → zW → Prop) : z_st1 (tX0_letsThrough 10) 10 lv st w nx K Rt = (z_la lv 0 (fun x => nx 11 lv (.ref x :: st) w)) := id rfl
theorem sX0_letsThrough_11 (lv : zL) (st : List Value) (w : zW) (nx K : Nat → zL → List Value → zW → Prop) (Rt : Option Value → zW → Prop) : z_st1 (tX0_letsThrough 11) 11 lv st w nx K Rt = (z_1a st (fun x r => z_ob w x 1 (fun fs => z_fl fs 1 (fun u => nx 14 lv (u :: r) w)))) := id rfl
theorem sX0_letsThrough_44 (lv : zL) (st : List Value) (w : zW) (nx K : Nat → zL → List Value → zW → Prop) (Rt : Option Value → zW → Prop) : z_st1 (tX0_letsThrough 44) 44 lv st w nx K Rt = (z_li lv 3 (fun x => nx 45 lv (.int x :: st) w)) := id rfl
theorem sX0_letsThrough_45 (lv : zL) (st : List Value) (w : zW) (nx K : Nat → zL → List Value → zW → Prop) (Rt : Option Value → zW → Prop) : z_st1 (tX0_letsThrough 45) 45 lv st w nx K Rt = (z_la lv 0 (fun x => nx 46 lv (.ref x :: st) w)) := id rfl
theorem sX0_letsThrough_46 (lv : zL) (st : List Value) (w : zW) (nx K : Nat → zL → List Value → zW → Prop) (Rt : Option Value → zW → Prop) : z_st1 (tX0_letsThrough 46) 46 lv st w nx K Rt = (z_1a st (fun x r => z_ob w x 1 (fun fs => z_fl fs 2 (fun u => nx 49 lv (u :: r) w)))) := id rfl
theorem sX0_letsThrough_49 (lv : zL) (st : List Value) (w : zW) (nx K : Nat → zL → List Value → zW → Prop) (Rt : Option Value → zW → Prop) : z_st1 (tX0_letsThrough 49) 49 lv st w nx K Rt = (z_2i st (fun x y r => (¬ x = y → nx 56 lv r w) ∧ (x = y → nx 52 lv r w))) := id rfl
theorem sX0_letsThrough_52 (lv : zL) (st : List Value) (w : zW) (nx K : Nat → zL → List Value → zW → Prop) (Rt : Option Value → zW → Prop) : z_st1 (tX0_letsThrough 52) 52 lv st w nx K Rt = (nx 53 lv (.int (1 : Int32) :: st) w) := id rfl
theorem sX0_letsThrough_53 (lv : zL) (st : List Value) (w : zW) (nx K : Nat → zL → List Value → zW → Prop) (Rt : Option Value → zW → Prop) : z_st1 (tX0_letsThrough 53) 53 lv st w nx K Rt = (nx 57 lv st w) := id rfl
theorem sX0_letsThrough_56 (lv : zL) (st : List Value) (w : zW) (nx K : Nat → zL → List Value → zW → Prop) (Rt : Option Value → zW → Prop) : z_st1 (tX0_letsThrough 56) 56 lv st w nx K Rt = (nx 57 lv (.int (0 : Int32) :: st) w) := id rfl
theorem sX0_letsThrough_57 (lv : zL) (st : List Value) (w : zW) (nx K : Nat → zL → List Value → zW → Prop) (Rt : Option Value → zW → Prop) : z_st1 (tX0_letsThrough 57) 57 lv st w nx K Rt = (z_e1 st (fun x => (x = 0 ∨ x = 1) ∧ Rt (some (.int x)) w)) := id rfl
theorem sX0_letsThrough_58 (lv : zL) (st : List Value) (w : zW) (nx K : Nat → zL → List Value → zW → Prop) (Rt : Option Value → zW → Prop) : z_st1 (tX0_letsThrough 58) 58 lv st w nx K Rt = (z_li lv 3 (fun x => nx 59 lv (.int x :: st) w)) := id rfl
theorem sX0_letsThrough_59 (lv : zL) (st : List Value) (w : zW) (nx K : Nat → zL → List Value → zW → Prop) (Rt : Option Value → zW → Prop) : z_st1 (tX0_letsThrough 59) 59 lv st w nx K Rt = (z_la lv 0 (fun x => nx 60 lv (.ref x :: st) w)) := id rfl
theorem sX0_letsThrough_60 (lv : zL) (st : List Value) (w : zW) (nx K : Nat → zL → List Value → zW → Prop) (Rt : Option Value → zW → Prop) : z_st1 (tX0_letsThrough 60) 60 lv st w nx K Rt = (z_1a st (fun x r => z_ob w x 1 (fun fs => z_fl fs 2 (fun u => nx 63 lv (u :: r) w)))) := id rfl
theorem sX0_letsThrough_63 (lv : zL) (st : List Value) (w : zW) (nx K : Nat → zL → List Value → zW → Prop) (Rt : Option Value → zW → Prop) : z_st1 (tX0_letsThrough 63) 63 lv st w nx K Rt = (z_2i st (fun x y r => (x = y → nx 70 lv r w) ∧ (¬ x = y → nx 66 lv r w))) := id rfl
theorem sX0_letsThrough_66 (lv : zL) (st : List Value) (w : zW) (nx K : Nat → zL → List Value → zW → Prop) (Rt : Option Value → zW → Prop) : z_st1 (tX0_letsThrough 66) 66 lv st w nx K Rt = (nx 67 lv (.int (1 : Int32) :: st) w) := id rfl
theorem sX0_letsThrough_67 (lv : zL) (st : List Value) (w : zW) (nx K : Nat → zL → List Value → zW → Prop) (Rt : Option Value → zW → Prop) : z_st1 (tX0_letsThrough 67) 67 lv st w nx K Rt = (nx 71 lv st w) := id rfl
theorem sX0_letsThrough_70 (lv : zL) (st : List Value) (w : zW) (nx K : Nat → zL → List Value → zW → Prop) (Rt : Option Value → zW → Prop) : z_st1 (tX0_letsThrough 70) 70 lv st w nx K Rt = (nx 71 lv (.int (0 : Int32) :: st) w) := id rfl
theorem sX0_letsThrough_71 (lv : zL) (st : List Value) (w : zW) (nx K : Nat → zL → List Value → zW → Prop) (Rt : Option Value → zW → Prop) : z_st1 (tX0_letsThrough 71) 71 lv st w nx K Rt = (z_e1 st (fun x => (x = 0 ∨ x = 1) ∧ Rt (some (.int x)) w)) := id rfl
theorem sX0_letsThrough_72 (lv : zL) (st : List Value) (w : zW) (nx K : Nat → zL → List Value → zW → Prop) (Rt : Option Value → zW → Prop) : z_st1 (tX0_letsThrough 72) 72 lv st w nx K Rt = (z_li lv 3 (fun x => nx 73 lv (.int x :: st) w)) := id rfl
theorem sX0_letsThrough_73 (lv : zL) (st : List Value) (w : zW) (nx K : Nat → zL → List Value → zW → Prop) (Rt : Option Value → zW → Prop) : z_st1 (tX0_letsThrough 73) 73 lv st w nx K Rt = (z_la lv 0 (fun x => nx 74 lv (.ref x :: st) w)) := id rfl
theorem sX0_letsThrough_74 (lv : zL) (st : List Value) (w : zW) (nx K : Nat → zL → List Value → zW → Prop) (Rt : Option Value → zW → Prop) : z_st1 (tX0_letsThrough 74) 74 lv st w nx K Rt = (z_1a st (fun x r => z_ob w x 1 (fun fs => z_fl fs 2 (fun u => nx 77 lv (u :: r) w)))) := id rfl
theorem sX0_letsThrough_77 (lv : zL) (st : List Value) (w : zW) (nx K : Nat → zL → List Value → zW → Prop) (Rt : Option Value → zW → Prop) : z_st1 (tX0_letsThrough 77) 77 lv st w nx K Rt = (z_2i st (fun x y r => (y ≤ x → nx 84 lv r w) ∧ (¬ y ≤ x → nx 80 lv r w))) := id rfl
theorem sX0_letsThrough_80 (lv : zL) (st : List Value) (w : zW) (nx K : Nat → zL → List Value → zW → Prop) (Rt : Option Value → zW → Prop) : z_st1 (tX0_letsThrough 80) 80 lv st w nx K Rt = (nx 81 lv (.int (1 : Int32) :: st) w) := id rfl
theorem sX0_letsThrough_81 (lv : zL) (st : List Value) (w : zW) (nx K : Nat → zL → List Value → zW → Prop) (Rt : Option Value → zW → Prop) : z_st1 (tX0_letsThrough 81) 81 lv st w nx K Rt = (nx 85 lv st w) := id rfl
theorem sX0_letsThrough_84 (lv : zL) (st : List Value) (w : zW) (nx K : Nat → zL → List Value → zW → Prop) (Rt : Option Value → zW → Prop) : z_st1 (tX0_letsThrough 84) 84 lv st w nx K Rt = (nx 85 lv (.int (0 : Int32) :: st) w) := id rfl
theorem sX0_letsThrough_85 (lv : zL) (st : List Value) (w : zW) (nx K : Nat → zL → List Value → zW → Prop) (Rt : Option Value → zW → Prop) : z_st1 (tX0_letsThrough 85) 85 lv st w nx K Rt = (z_e1 st (fun x => (x = 0 ∨ x = 1) ∧ Rt (some (.int x)) w)) := id rfl
theorem sX0_letsThrough_86 (lv : zL) (st : List Value) (w : zW) (nx K : Nat → zL → List Value → zW → Prop) (Rt : Option Value → zW → Prop) : z_st1 (tX0_letsThrough 86) 86 lv st w nx K Rt = (z_li lv 3 (fun x => nx 87 lv (.int x :: st) w)) := id rfl
theorem sX0_letsThrough_87 (lv : zL) (st : List Value) (w : zW) (nx K : Nat → zL → List Value → zW → Prop) (Rt : Option Value → zW → Prop) : z_st1 (tX0_letsThrough 87) 87 lv st w nx K Rt = (z_la lv 0 (fun x => nx 88 lv (.ref x :: st) w)) := id rfl
theorem sX0_letsThrough_88 (lv : zL) (st : List Value) (w : zW) (nx K : Nat → zL → List Value → zW → Prop) (Rt : Option Value → zW → Prop) : z_st1 (tX0_letsThrough 88) 88 lv st w nx K Rt = (z_1a st (fun x r => z_ob w x 1 (fun fs => z_fl fs 2 (fun u => nx 91 lv (u :: r) w)))) := id rfl
theorem sX0_letsThrough_91 (lv : zL) (st : List Value) (w : zW) (nx K : Nat → zL → List Value → zW → Prop) (Rt : Option Value → zW → Prop) : z_st1 (tX0_letsThrough 91) 91 lv st w nx K Rt = (z_2i st (fun x y r => (x ≤ y → nx 98 lv r w) ∧ (¬ x ≤ y → nx 94 lv r w))) := id rfl
theorem sX0_letsThrough_94 (lv : zL) (st : List Value) (w : zW) (nx K : Nat → zL → List Value → zW → Prop) (Rt : Option Value → zW → Prop) : z_st1 (tX0_letsThrough 94) 94 lv st w nx K Rt = (nx 95 lv (.int (1 : Int32) :: st) w) := id rfl
theorem sX0_letsThrough_95 (lv : zL) (st : List Value) (w : zW) (nx K : Nat → zL → List Value → zW → Prop) (Rt : Option Value → zW → Prop) : z_st1 (tX0_letsThrough 95) 95 lv st w nx K Rt = (nx 99 lv st w) := id rfl
theorem sX0_letsThrough_98 (lv : zL) (st : List Value) (w : zW) (nx K : Nat → zL → List Value → zW → Prop) (Rt : Option Value → zW → Prop) : z_st1 (tX0_letsThrough 98) 98 lv st w nx K Rt = (nx 99 lv (.int (0 : Int32) :: st) w) := id rfl
theorem sX0_letsThrough_99 (lv : zL) (st : List Value) (w : zW) (nx K : Nat → zL → List Value → zW → Prop) (Rt : Option Value → zW → Prop) : z_st1 (tX0_letsThrough 99) 99 lv st w nx K Rt = (z_e1 st (fun x => (x = 0 ∨ x = 1) ∧ Rt (some (.int x)) w)) := id rfl
theorem sX0_letsThrough_100 (lv : zL) (st : List Value) (w : zW) (nx K : Nat → zL → List Value → zW → Prop) (Rt : Option Value → zW → Prop) : z_st1 (tX0_letsThrough 100) 100 lv st w nx K Rt = (nx 101 lv (.int (1 : Int32) :: st) w) := id rfl
theorem sX0_letsThrough_101 (lv : zL) (st : List Value) (w : zW) (nx K : Nat → zL → List Value → zW → Prop) (Rt : Option Value → zW → Prop) : z_st1 (tX0_letsThrough 101) 101 lv st w nx K Rt = (z_e1 st (fun x => (x = 0 ∨ x = 1) ∧ Rt (some (.int x)) w)) := id rfl
theorem sX0_letsThrough_6 (lv : zL) (st : List Value) (w : zW) (nx K : Nat → zL → List Value → zW → Prop) (Rt : Option Value → zW → Prop) : z_st1 (tX0_letsThrough 6) 6 lv st w nx K Rt = K 6 lv st w := id rfl
theorem sX0_letsThrough_14 (lv : zL) (st : List Value) (w : zW) (nx K : Nat → zL → List Value → zW → Prop) (Rt : Option Value → zW → Prop) : z_st1 (tX0_letsThrough 14) 14 lv st w nx K Rt = K 14 lv st w := id rfl
theorem dX0_letsThrough_6 : decode cX0_letsThrough 6 = .ok (.invokevirtual 19, 3) := by decide +kernel
theorem dX0_letsThrough_14 : decode cX0_letsThrough 14 = .ok (.tableswitch 86 0 3 #[30, 44, 58, 72], 30) := by decide +kernel

def tmX1_init (pc : Nat) : zI := match pc with
  | 0 => (1, 0, 0, 1, 0)
  | 4 => (55, 0, 0, 5, 0)
  | _ => (99, 0, 0, 0, 0)
def tX1_init (pc : Nat) : zI := if pc < 5 then tmX1_init pc else (99, 0, 0, 0, 0)
theorem tkX1_init : z_tab RX1 wsX1_init 1 none cX1_init 5 tX1_init := z_tab_of (tm := tmX1_init) (by decide +kernel)
theorem sX1_init_0 (lv : zL) (st : List Value) (w : zW) (nx K : Nat → zL → List Value → zW → Prop) (Rt : Option Value → zW → Prop) : z_st1 (tX1_init 0) 0 lv st w nx K Rt = (z_la lv 0 (fun x => nx 1 lv (.ref x :: st) w)) := id rfl
theorem sX1_init_4 (lv : zL) (st : List Value) (w : zW) (nx K : Nat → zL → List Value → zW → Prop) (Rt : Option Value → zW → Prop) : z_st1 (tX1_init 4) 4 lv st w nx K Rt = (z_e0 st (Rt none w)) := id rfl
theorem sX1_init_1 (lv : zL) (st : List Value) (w : zW) (nx K : Nat → zL → List Value → zW → Prop) (Rt : Option Value → zW → Prop) : z_st1 (tX1_init 1) 1 lv st w nx K Rt = K 1 lv st w := id rfl
theorem dX1_init_1 : decode cX1_init 1 = .ok (.invokespecial 3, 3) := by decide +kernel

def tmX1_tell (pc : Nat) : zI := match pc with
  | 0 => (1, 0, 0, 1, 0)
  | 1 => (0, 1, 0, 2, 0)
  | 2 => (47, 2, 0, 5, 0)
  | 5 => (1, 0, 0, 6, 0)
  | 6 => (0, 2, 0, 7, 0)
  | 7 => (47, 2, 1, 10, 0)
  | 10 => (55, 0, 0, 11, 0)
  | _ => (99, 0, 0, 0, 0)
def tX1_tell (pc : Nat) : zI := if pc < 11 then tmX1_tell pc else (99, 0, 0, 0, 0)
theorem tkX1_tell : z_tab RX1 wsX1_tell 3 none cX1_tell 11 tX1_tell := z_tab_of (tm := tmX1_tell) (by decide +kernel)
theorem sX1_tell_0 (lv : zL) (st : List Value) (w : zW) (nx K : Nat → zL → List Value → zW → Prop) (Rt : Option Value → zW → Prop) : z_st1 (tX1_tell 0) 0 lv st w nx K Rt = (z_la lv 0 (fun x => nx 1 lv (.ref x :: st) w)) := id rfl
theorem sX1_tell_1 (lv : zL) (st : List Value) (w : zW) (nx K : Nat → zL → List Value → zW → Prop) (Rt : Option Value → zW → Prop) : z_st1 (tX1_tell 1) 1 lv st w nx K Rt = (z_li lv 1 (fun x => nx 2 lv (.int x :: st) w)) := id rfl
theorem sX1_tell_2 (lv : zL) (st : List Value) (w : zW) (nx K : Nat → zL → List Value → zW → Prop) (Rt : Option Value → zW → Prop) : z_st1 (tX1_tell 2) 2 lv st w nx K Rt = (z_ia st (fun x i r => z_ob w x 2 (fun fs => 0 < fs.length ∧ nx 5 lv r (z_up w x (.inr (2, fs.set 0 (.int i))))))) := id rfl
theorem sX1_tell_5 (lv : zL) (st : List Value) (w : zW) (nx K : Nat → zL → List Value → zW → Prop) (Rt : Option Value → zW → Prop) : z_st1 (tX1_tell 5) 5 lv st w nx K Rt = (z_la lv 0 (fun x => nx 6 lv (.ref x :: st) w)) := id rfl
theorem sX1_tell_6 (lv : zL) (st : List Value) (w : zW) (nx K : Nat → zL → List Value → zW → Prop) (Rt : Option Value → zW → Prop) : z_st1 (tX1_tell 6) 6 lv st w nx K Rt = (z_li lv 2 (fun x => nx 7 lv (.int x :: st) w)) := id rfl
theorem sX1_tell_7 (lv : zL) (st : List Value) (w : zW) (nx K : Nat → zL → List Value → zW → Prop) (Rt : Option Value → zW → Prop) : z_st1 (tX1_tell 7) 7 lv st w nx K Rt = (z_ia st (fun x i r => z_ob w x 2 (fun fs => 1 < fs.length ∧ nx 10 lv r (z_up w x (.inr (2, fs.set 1 (.int i))))))) := id rfl
theorem sX1_tell_10 (lv : zL) (st : List Value) (w : zW) (nx K : Nat → zL → List Value → zW → Prop) (Rt : Option Value → zW → Prop) : z_st1 (tX1_tell 10) 10 lv st w nx K Rt = (z_e0 st (Rt none w)) := id rfl

def tmX1_restart (pc : Nat) : zI := match pc with
  | 0 => (1, 0, 0, 1, 0)
  | 1 => (6, 0, 0, 2, 0)
  | 2 => (47, 2, 2, 5, 0)
  | 5 => (55, 0, 0, 6, 0)
  | _ => (99, 0, 0, 0, 0)
def tX1_restart (pc : Nat) : zI := if pc < 6 then tmX1_restart pc else (99, 0, 0, 0, 0)
theorem tkX1_restart : z_tab RX1 wsX1_restart 1 none cX1_restart 6 tX1_restart := z_tab_of (tm := tmX1_restart) (by decide +kernel)
theorem sX1_restart_0 (lv : zL) (st : List Value) (w : zW) (nx K : Nat → zL → List Value → zW → Prop) (Rt : Option Value → zW → Prop) : z_st1 (tX1_restart 0) 0 lv st w nx K Rt = (z_la lv 0 (fun x => nx 1 lv (.ref x :: st) w)) := id rfl
theorem sX1_restart_1 (lv : zL) (st : List Value) (w : zW) (nx K : Nat → zL → List Value → zW → Prop) (Rt : Option Value → zW → Prop) : z_st1 (tX1_restart 1) 1 lv st w nx K Rt = (nx 2 lv (.int (0 : Int32) :: st) w) := id rfl
theorem sX1_restart_2 (lv : zL) (st : List Value) (w : zW) (nx K : Nat → zL → List Value → zW → Prop) (Rt : Option Value → zW → Prop) : z_st1 (tX1_restart 2) 2 lv st w nx K Rt = (z_ia st (fun x i r => z_ob w x 2 (fun fs => 2 < fs.length ∧ nx 5 lv r (z_up w x (.inr (2, fs.set 2 (.int i))))))) := id rfl
theorem sX1_restart_5 (lv : zL) (st : List Value) (w : zW) (nx K : Nat → zL → List Value → zW → Prop) (Rt : Option Value → zW → Prop) : z_st1 (tX1_restart 5) 5 lv st w nx K Rt = (z_e0 st (Rt none w)) := id rfl

def tmX1_meet (pc : Nat) : zI := match pc with
  | 0 => (1, 0, 0, 1, 0)
  | 1 => (29, 0, 0, 2, 0)
  | 2 => (46, 2, 2, 5, 0)
  | 5 => (6, 0, 0, 6, 1)
  | 6 => (8, 0, 0, 7, 0)
  | 7 => (47, 2, 2, 10, 0)
  | 10 => (1, 0, 0, 11, 0)
  | 11 => (46, 2, 2, 14, 0)
  | 14 => (1, 0, 0, 15, 0)
  | 15 => (46, 2, 1, 18, 0)
  | 18 => (41, 23, 0, 21, 0)
  | 21 => (6, 0, 0, 22, 2)
  | 22 => (53, 0, 0, 23, 0)
  | 23 => (1, 1, 0, 24, 0)
  | 24 => (0, 2, 0, 25, 0)
  | 28 => (35, 35, 0, 31, 0)
  | 31 => (6, 0, 0, 32, 1)
  | 32 => (33, 36, 0, 35, 0)
  | 35 => (6, 0, 0, 36, 0)
  | 36 => (3, 3, 0, 37, 0)
  | 37 => (1, 0, 0, 38, 0)
  | 38 => (46, 2, 0, 41, 0)
  | 41 => (6, 0, 0, 42, 2)
  | 42 => (41, 67, 0, 45, 0)
  | 45 => (0, 3, 0, 46, 0)
  | 46 => (35, 67, 0, 49, 0)
  | 49 => (1, 1, 0, 50, 0)
  | 50 => (0, 2, 0, 51, 0)
  | 51 => (6, 0, 0, 52, 0)
  | 52 => (1, 1, 0, 53, 0)
  | 53 => (0, 2, 0, 54, 0)
  | 54 => (6, 0, 0, 55, 0)
  | 58 => (6, 0, 0, 59, 1)
  | 59 => (8, 0, 0, 60, 0)
  | 60 => (6, 0, 0, 63, 255)
  | 63 => (11, 0, 0, 64, 0)
  | 67 => (1, 0, 0, 68, 0)
  | 68 => (46, 2, 0, 71, 0)
  | 71 => (6, 0, 0, 72, 1)
  | 72 => (41, 84, 0, 75, 0)
  | 75 => (1, 0, 0, 76, 0)
  | 76 => (46, 2, 2, 79, 0)
  | 79 => (6, 0, 0, 80, 2)
  | 80 => (16, 0, 0, 81, 0)
  | 81 => (34, 96, 0, 84, 0)
  | 84 => (1, 0, 0, 85, 0)
  | 85 => (46, 2, 0, 88, 0)
  | 88 => (6, 0, 0, 89, 3)
  | 89 => (41, 100, 0, 92, 0)
  | 92 => (0, 3, 0, 93, 0)
  | 93 => (34, 100, 0, 96, 0)
  | 96 => (6, 0, 0, 97, 1)
  | 97 => (33, 101, 0, 100, 0)
  | 100 => (6, 0, 0, 101, 0)
  | 101 => (3, 4, 0, 103, 0)
  | 103 => (0, 4, 0, 105, 0)
  | 105 => (34, 112, 0, 108, 0)
  | 108 => (6, 0, 0, 109, 1)
  | 109 => (33, 113, 0, 112, 0)
  | 112 => (6, 0, 0, 113, 0)
  | 113 => (53, 0, 0, 114, 0)
  | _ => (99, 0, 0, 0, 0)
def tX1_meet (pc : Nat) : zI := if pc < 114 then tmX1_meet pc else (99, 0, 0, 0, 0)
theorem tkX1_meet : z_tab RX1 wsX1_meet 5 (some .int) cX1_meet 114 tX1_meet := z_tab_of (tm := tmX1_meet) (by decide +kernel)
theorem sX1_meet_0 (lv : zL) (st : List Value) (w : zW) (nx K : Nat → zL → List Value → zW → Prop) (Rt : Option Value → zW → Prop) : z_st1 (tX1_meet 0) 0 lv st w nx K Rt = (z_la lv 0 (fun x => nx 1 lv (.ref x :: st) w)) := id rfl
theorem sX1_meet_1 (lv : zL) (st : List Value) (w : zW) (nx K : Nat → zL → List Value → zW → Prop) (Rt : Option Value → zW → Prop) : z_st1 (tX1_meet 1) 1 lv st w nx K Rt = (z_d1 st (fun x r => nx 2 lv (x :: x :: r) w)) := id rfl
theorem sX1_meet_2 (lv : zL) (st : List Value) (w : zW) (nx K : Nat → zL → List Value → zW → Prop) (Rt : Option Value → zW → Prop) : z_st1 (tX1_meet 2) 2 lv st w nx K Rt = (z_1a st (fun x r => z_ob w x 2 (fun fs => z_fl fs 2 (fun u => nx 5 lv (u :: r) w)))) := id rfl
theorem sX1_meet_5 (lv : zL) (st : List Value) (w : zW) (nx K : Nat → zL → List Value → zW → Prop) (Rt : Option Value → zW → Prop) : z_st1 (tX1_meet 5) 5 lv st w nx K Rt = (nx 6 lv (.int (1 : Int32) :: st) w) := id rfl
theorem sX1_meet_6 (lv : zL) (st : List Value) (w : zW) (nx K : Nat → zL → List Value → zW → Prop) (Rt : Option Value → zW → Prop) : z_st1 (tX1_meet 6) 6 lv st w nx K Rt = (z_2i st (fun x y r => nx 7 lv (.int (x + y) :: r) w)) := id rfl
theorem sX1_meet_7 (lv : zL) (st : List Value) (w : zW) (nx K : Nat → zL → List Value → zW → Prop) (Rt : Option Value → zW → Prop) : z_st1 (tX1_meet 7) 7 lv st w nx K Rt = (z_ia st (fun x i r => z_ob w x 2 (fun fs => 2 < fs.length ∧ nx 10 lv r (z_up w x (.inr (2, fs.set 2 (.int i))))))) := id rfl
theorem sX1_meet_10 (lv : zL) (st : List Value) (w : zW) (nx K : Nat → zL → List Value → zW → Prop) (Rt : Option Value → zW → Prop) : z_st1 (tX1_meet 10) 10 lv st w nx K Rt = (z_la lv 0 (fun x => nx 11 lv (.ref x :: st) w)) := id rfl
theorem sX1_meet_11 (lv : zL) (st : List Value) (w : zW) (nx K : Nat → zL → List Value → zW → Prop) (Rt : Option Value → zW → Prop) : z_st1 (tX1_meet 11) 11 lv st w nx K Rt = (z_1a st (fun x r => z_ob w x 2 (fun fs => z_fl fs 2 (fun u => nx 14 lv (u :: r) w)))) := id rfl
theorem sX1_meet_14 (lv : zL) (st : List Value) (w : zW) (nx K : Nat → zL → List Value → zW → Prop) (Rt : Option Value → zW → Prop) : z_st1 (tX1_meet 14) 14 lv st w nx K Rt = (z_la lv 0 (fun x => nx 15 lv (.ref x :: st) w)) := id rfl
theorem sX1_meet_15 (lv : zL) (st : List Value) (w : zW) (nx K : Nat → zL → List Value → zW → Prop) (Rt : Option Value → zW → Prop) : z_st1 (tX1_meet 15) 15 lv st w nx K Rt = (z_1a st (fun x r => z_ob w x 2 (fun fs => z_fl fs 1 (fun u => nx 18 lv (u :: r) w)))) := id rfl
theorem sX1_meet_18 (lv : zL) (st : List Value) (w : zW) (nx K : Nat → zL → List Value → zW → Prop) (Rt : Option Value → zW → Prop) : z_st1 (tX1_meet 18) 18 lv st w nx K Rt = (z_2i st (fun x y r => (¬ x = y → nx 23 lv r w) ∧ (x = y → nx 21 lv r w))) := id rfl
theorem sX1_meet_21 (lv : zL) (st : List Value) (w : zW) (nx K : Nat → zL → List Value → zW → Prop) (Rt : Option Value → zW → Prop) : z_st1 (tX1_meet 21) 21 lv st w nx K Rt = (nx 22 lv (.int (2 : Int32) :: st) w) := id rfl
theorem sX1_meet_22 (lv : zL) (st : List Value) (w : zW) (nx K : Nat → zL → List Value → zW → Prop) (Rt : Option Value → zW → Prop) : z_st1 (tX1_meet 22) 22 lv st w nx K Rt = (z_e1 st (fun x => Rt (some (.int x)) w)) := id rfl
theorem sX1_meet_23 (lv : zL) (st : List Value) (w : zW) (nx K : Nat → zL → List Value → zW → Prop) (Rt : Option Value → zW → Prop) : z_st1 (tX1_meet 23) 23 lv st w nx K Rt = (z_la lv 1 (fun x => nx 24 lv (.ref x :: st) w)) := id rfl
theorem sX1_meet_24 (lv : zL) (st : List Value) (w : zW) (nx K : Nat → zL → List Value → zW → Prop) (Rt : Option Value → zW → Prop) : z_st1 (tX1_meet 24) 24 lv st w nx K Rt = (z_li lv 2 (fun x => nx 25 lv (.int x :: st) w)) := id rfl
theorem sX1_meet_28 (lv : zL) (st : List Value) (w : zW) (nx K : Nat → zL → List Value → zW → Prop) (Rt : Option Value → zW → Prop) : z_st1 (tX1_meet 28) 28 lv st w nx K Rt = (z_1i st (fun x r => (¬ x = 0 → nx 35 lv r w) ∧ (x = 0 → nx 31 lv r w))) := id rfl
theorem sX1_meet_31 (lv : zL) (st : List Value) (w : zW) (nx K : Nat → zL → List Value → zW → Prop) (Rt : Option Value → zW → Prop) : z_st1 (tX1_meet 31) 31 lv st w nx K Rt = (nx 32 lv (.int (1 : Int32) :: st) w) := id rfl
theorem sX1_meet_32 (lv : zL) (st : List Value) (w : zW) (nx K : Nat → zL → List Value → zW → Prop) (Rt : Option Value → zW → Prop) : z_st1 (tX1_meet 32) 32 lv st w nx K Rt = (nx 36 lv st w) := id rfl
theorem sX1_meet_35 (lv : zL) (st : List Value) (w : zW) (nx K : Nat → zL → List Value → zW → Prop) (Rt : Option Value → zW → Prop) : z_st1 (tX1_meet 35) 35 lv st w nx K Rt = (nx 36 lv (.int (0 : Int32) :: st) w) := id rfl
theorem sX1_meet_36 (lv : zL) (st : List Value) (w : zW) (nx K : Nat → zL → List Value → zW → Prop) (Rt : Option Value → zW → Prop) : z_st1 (tX1_meet 36) 36 lv st w nx K Rt = (z_1i st (fun x r => z_ok1 lv 3 = true ∧ nx 37 (lv.set 3 (some (.int x))) r w)) := id rfl
theorem sX1_meet_37 (lv : zL) (st : List Value) (w : zW) (nx K : Nat → zL → List Value → zW → Prop) (Rt : Option Value → zW → Prop) : z_st1 (tX1_meet 37) 37 lv st w nx K Rt = (z_la lv 0 (fun x => nx 38 lv (.ref x :: st) w)) := id rfl
theorem sX1_meet_38 (lv : zL) (st : List Value) (w : zW) (nx K : Nat → zL → List Value → zW → Prop) (Rt : Option Value → zW → Prop) : z_st1 (tX1_meet 38) 38 lv st w nx K Rt = (z_1a st (fun x r => z_ob w x 2 (fun fs => z_fl fs 0 (fun u => nx 41 lv (u :: r) w)))) := id rfl
theorem sX1_meet_41 (lv : zL) (st : List Value) (w : zW) (nx K : Nat → zL → List Value → zW → Prop) (Rt : Option Value → zW → Prop) : z_st1 (tX1_meet 41) 41 lv st w nx K Rt = (nx 42 lv (.int (2 : Int32) :: st) w) := id rfl
theorem sX1_meet_42 (lv : zL) (st : List Value) (w : zW) (nx K : Nat → zL → List Value → zW → Prop) (Rt : Option Value → zW → Prop) : z_st1 (tX1_meet 42) 42 lv st w nx K Rt = (z_2i st (fun x y r => (¬ x = y → nx 67 lv r w) ∧ (x = y → nx 45 lv r w))) := id rfl
theorem sX1_meet_45 (lv : zL) (st : List Value) (w : zW) (nx K : Nat → zL → List Value → zW → Prop) (Rt : Option Value → zW → Prop) : z_st1 (tX1_meet 45) 45 lv st w nx K Rt = (z_li lv 3 (fun x => nx 46 lv (.int x :: st) w)) := id rfl
theorem sX1_meet_46 (lv : zL) (st : List Value) (w : zW) (nx K : Nat → zL → List Value → zW → Prop) (Rt : Option Value → zW → Prop) : z_st1 (tX1_meet 46) 46 lv st w nx K Rt = (z_1i st (fun x r => (¬ x = 0 → nx 67 lv r w) ∧ (x = 0 → nx 49 lv r w))) := id rfl
theorem sX1_meet_49 (lv : zL) (st : List Value) (w : zW) (nx K : Nat → zL → List Value → zW → Prop) (Rt : Option Value → zW → Prop) : z_st1 (tX1_meet 49) 49 lv st w nx K Rt = (z_la lv 1 (fun x => nx 50 lv (.ref x :: st) w)) := id rfl
theorem sX1_meet_50 (lv : zL) (st : List Value) (w : zW) (nx K : Nat → zL → List Value → zW → Prop) (Rt : Option Value → zW → Prop) : z_st1 (tX1_meet 50) 50 lv st w nx K Rt = (z_li lv 2 (fun x => nx 51 lv (.int x :: st) w)) := id rfl
theorem sX1_meet_51 (lv : zL) (st : List Value) (w : zW) (nx K : Nat → zL → List Value → zW → Prop) (Rt : Option Value → zW → Prop) : z_st1 (tX1_meet 51) 51 lv st w nx K Rt = (nx 52 lv (.int (0 : Int32) :: st) w) := id rfl
theorem sX1_meet_52 (lv : zL) (st : List Value) (w : zW) (nx K : Nat → zL → List Value → zW → Prop) (Rt : Option Value → zW → Prop) : z_st1 (tX1_meet 52) 52 lv st w nx K Rt = (z_la lv 1 (fun x => nx 53 lv (.ref x :: st) w)) := id rfl
theorem sX1_meet_53 (lv : zL) (st : List Value) (w : zW) (nx K : Nat → zL → List Value → zW → Prop) (Rt : Option Value → zW → Prop) : z_st1 (tX1_meet 53) 53 lv st w nx K Rt = (z_li lv 2 (fun x => nx 54 lv (.int x :: st) w)) := id rfl
theorem sX1_meet_54 (lv : zL) (st : List Value) (w : zW) (nx K : Nat → zL → List Value → zW → Prop) (Rt : Option Value → zW → Prop) : z_st1 (tX1_meet 54) 54 lv st w nx K Rt = (nx 55 lv (.int (0 : Int32) :: st) w) := id rfl
theorem sX1_meet_58 (lv : zL) (st : List Value) (w : zW) (nx K : Nat → zL → List Value → zW → Prop) (Rt : Option Value → zW → Prop) : z_st1 (tX1_meet 58) 58 lv st w nx K Rt = (nx 59 lv (.int (1 : Int32) :: st) w) := id rfl
theorem sX1_meet_59 (lv : zL) (st : List Value) (w : zW) (nx K : Nat → zL → List Value → zW → Prop) (Rt : Option Value → zW → Prop) : z_st1 (tX1_meet 59) 59 lv st w nx K Rt = (z_2i st (fun x y r => nx 60 lv (.int (x + y) :: r) w)) := id rfl
theorem sX1_meet_60 (lv : zL) (st : List Value) (w : zW) (nx K : Nat → zL → List Value → zW → Prop) (Rt : Option Value → zW → Prop) : z_st1 (tX1_meet 60) 60 lv st w nx K Rt = (nx 63 lv (.int (255 : Int32) :: st) w) := id rfl
theorem sX1_meet_63 (lv : zL) (st : List Value) (w : zW) (nx K : Nat → zL → List Value → zW → Prop) (Rt : Option Value → zW → Prop) : z_st1 (tX1_meet 63) 63 lv st w nx K Rt = (z_2i st (fun x y r => nx 64 lv (.int (x &&& y) :: r) w)) := id rfl
theorem sX1_meet_67 (lv : zL) (st : List Value) (w : zW) (nx K : Nat → zL → List Value → zW → Prop) (Rt : Option Value → zW → Prop) : z_st1 (tX1_meet 67) 67 lv st w nx K Rt = (z_la lv 0 (fun x => nx 68 lv (.ref x :: st) w)) := id rfl
theorem sX1_meet_68 (lv : zL) (st : List Value) (w : zW) (nx K : Nat → zL → List Value → zW → Prop) (Rt : Option Value → zW → Prop) : z_st1 (tX1_meet 68) 68 lv st w nx K Rt = (z_1a st (fun x r => z_ob w x 2 (fun fs => z_fl fs 0 (fun u => nx 71 lv (u :: r) w)))) := id rfl
theorem sX1_meet_71 (lv : zL) (st : List Value) (w : zW) (nx K : Nat → zL → List Value → zW → Prop) (Rt : Option Value → zW → Prop) : z_st1 (tX1_meet 71) 71 lv st w nx K Rt = (nx 72 lv (.int (1 : Int32) :: st) w) := id rfl
theorem sX1_meet_72 (lv : zL) (st : List Value) (w : zW) (nx K : Nat → zL → List Value → zW → Prop) (Rt : Option Value → zW → Prop) : z_st1 (tX1_meet 72) 72 lv st w nx K Rt = (z_2i st (fun x y r => (¬ x = y → nx 84 lv r w) ∧ (x = y → nx 75 lv r w))) := id rfl
theorem sX1_meet_75 (lv : zL) (st : List Value) (w : zW) (nx K : Nat → zL → List Value → zW → Prop) (Rt : Option Value → zW → Prop) : z_st1 (tX1_meet 75) 75 lv st w nx K Rt = (z_la lv 0 (fun x => nx 76 lv (.ref x :: st) w)) := id rfl
theorem sX1_meet_76 (lv : zL) (st : List Value) (w : zW) (nx K : Nat → zL → List Value → zW → Prop) (Rt : Option Value → zW → Prop) : z_st1 (tX1_meet 76) 76 lv st w nx K Rt = (z_1a st (fun x r => z_ob w x 2 (fun fs => z_fl fs 2 (fun u => nx 79 lv (u :: r) w)))) := id rfl
theorem sX1_meet_79 (lv : zL) (st : List Value) (w : zW) (nx K : Nat → zL → List Value → zW → Prop) (Rt : Option Value → zW → Prop) : z_st1 (tX1_meet 79) 79 lv st w nx K Rt = (nx 80 lv (.int (2 : Int32) :: st) w) := id rfl
theorem sX1_meet_80 (lv : zL) (st : List Value) (w : zW) (nx K : Nat → zL → List Value → zW → Prop) (Rt : Option Value → zW → Prop) : z_st1 (tX1_meet 80) 80 lv st w nx K Rt = (z_2i st (fun x y r => ¬ y = 0 ∧ nx 81 lv (.int (x - x / y * y) :: r) w)) := id rfl
theorem sX1_meet_81 (lv : zL) (st : List Value) (w : zW) (nx K : Nat → zL → List Value → zW → Prop) (Rt : Option Value → zW → Prop) : z_st1 (tX1_meet 81) 81 lv st w nx K Rt = (z_1i st (fun x r => (x = 0 → nx 96 lv r w) ∧ (¬ x = 0 → nx 84 lv r w))) := id rfl
theorem sX1_meet_84 (lv : zL) (st : List Value) (w : zW) (nx K : Nat → zL → List Value → zW → Prop) (Rt : Option Value → zW → Prop) : z_st1 (tX1_meet 84) 84 lv st w nx K Rt = (z_la lv 0 (fun x => nx 85 lv (.ref x :: st) w)) := id rfl
theorem sX1_meet_85 (lv : zL) (st : List Value) (w : zW) (nx K : Nat → zL → List Value → zW → Prop) (Rt : Option Value → zW → Prop) : z_st1 (tX1_meet 85) 85 lv st w nx K Rt = (z_1a st (fun x r => z_ob w x 2 (fun fs => z_fl fs 0 (fun u => nx 88 lv (u :: r) w)))) := id rfl
theorem sX1_meet_88 (lv : zL) (st : List Value) (w : zW) (nx K : Nat → zL → List Value → zW → Prop) (Rt : Option Value → zW → Prop) : z_st1 (tX1_meet 88) 88 lv st w nx K Rt = (nx 89 lv (.int (3 : Int32) :: st) w) := id rfl
theorem sX1_meet_89 (lv : zL) (st : List Value) (w : zW) (nx K : Nat → zL → List Value → zW → Prop) (Rt : Option Value → zW → Prop) : z_st1 (tX1_meet 89) 89 lv st w nx K Rt = (z_2i st (fun x y r => (¬ x = y → nx 100 lv r w) ∧ (x = y → nx 92 lv r w))) := id rfl
theorem sX1_meet_92 (lv : zL) (st : List Value) (w : zW) (nx K : Nat → zL → List Value → zW → Prop) (Rt : Option Value → zW → Prop) : z_st1 (tX1_meet 92) 92 lv st w nx K Rt = (z_li lv 3 (fun x => nx 93 lv (.int x :: st) w)) := id rfl
theorem sX1_meet_93 (lv : zL) (st : List Value) (w : zW) (nx K : Nat → zL → List Value → zW → Prop) (Rt : Option Value → zW → Prop) : z_st1 (tX1_meet 93) 93 lv st w nx K Rt = (z_1i st (fun x r => (x = 0 → nx 100 lv r w) ∧ (¬ x = 0 → nx 96 lv r w))) := id rfl
theorem sX1_meet_96 (lv : zL) (st : List Value) (w : zW) (nx K : Nat → zL → List Value → zW → Prop) (Rt : Option Value → zW → Prop) : z_st1 (tX1_meet 96) 96 lv st w nx K Rt = (nx 97 lv (.int (1 : Int32) :: st) w) := id rfl
theorem sX1_meet_97 (lv : zL) (st : List Value) (w : zW) (nx K : Nat → zL → List Value → zW → Prop) (Rt : Option Value → zW → Prop) : z_st1 (tX1_meet 97) 97 lv st w nx K Rt = (nx 101 lv st w) := id rfl
theorem sX1_meet_100 (lv : zL) (st : List Value) (w : zW) (nx K : Nat → zL → List Value → zW → Prop) (Rt : Option Value → zW → Prop) : z_st1 (tX1_meet 100) 100 lv st w nx K Rt = (nx 101 lv (.int (0 : Int32) :: st) w) := id rfl
theorem sX1_meet_101 (lv : zL) (st : List Value) (w : zW) (nx K : Nat → zL → List Value → zW → Prop) (Rt : Option Value → zW → Prop) : z_st1 (tX1_meet 101) 101 lv st w nx K Rt = (z_1i st (fun x r => z_ok1 lv 4 = true ∧ nx 103 (lv.set 4 (some (.int x))) r w)) := id rfl
theorem sX1_meet_103 (lv : zL) (st : List Value) (w : zW) (nx K : Nat → zL → List Value → zW → Prop) (Rt : Option Value → zW → Prop) : z_st1 (tX1_meet 103) 103 lv st w nx K Rt = (z_li lv 4 (fun x => nx 105 lv (.int x :: st) w)) := id rfl
theorem sX1_meet_105 (lv : zL) (st : List Value) (w : zW) (nx K : Nat → zL → List Value → zW → Prop) (Rt : Option Value → zW → Prop) : z_st1 (tX1_meet 105) 105 lv st w nx K Rt = (z_1i st (fun x r => (x = 0 → nx 112 lv r w) ∧ (¬ x = 0 → nx 108 lv r w))) := id rfl
theorem sX1_meet_108 (lv : zL) (st : List Value) (w : zW) (nx K : Nat → zL → List Value → zW → Prop) (Rt : Option Value → zW → Prop) : z_st1 (tX1_meet 108) 108 lv st w nx K Rt = (nx 109 lv (.int (1 : Int32) :: st) w) := id rfl
theorem sX1_meet_109 (lv : zL) (st : List Value) (w : zW) (nx K : Nat → zL → List Value → zW → Prop) (Rt : Option Value → zW → Prop) : z_st1 (tX1_meet 109) 109 lv st w nx K Rt = (nx 113 lv st w) := id rfl
theorem sX1_meet_112 (lv : zL) (st : List Value) (w : zW) (nx K : Nat → zL → List Value → zW → Prop) (Rt : Option Value → zW → Prop) : z_st1 (tX1_meet 112) 112 lv st w nx K Rt = (nx 113 lv (.int (0 : Int32) :: st) w) := id rfl
theorem sX1_meet_113 (lv : zL) (st : List Value) (w : zW) (nx K : Nat → zL → List Value → zW → Prop) (Rt : Option Value → zW → Prop) : z_st1 (tX1_meet 113) 113 lv st w nx K Rt = (z_e1 st (fun x => Rt (some (.int x)) w)) := id rfl
theorem sX1_meet_25 (lv : zL) (st : List Value) (w : zW) (nx K : Nat → zL → List Value → zW → Prop) (Rt : Option Value → zW → Prop) : z_st1 (tX1_meet 25) 25 lv st w nx K Rt = K 25 lv st w := id rfl
theorem sX1_meet_55 (lv : zL) (st : List Value) (w : zW) (nx K : Nat → zL → List Value → zW → Prop) (Rt : Option Value → zW → Prop) : z_st1 (tX1_meet 55) 55 lv st w nx K Rt = K 55 lv st w := id rfl
theorem sX1_meet_64 (lv : zL) (st : List Value) (w : zW) (nx K : Nat → zL → List Value → zW → Prop) (Rt : Option Value → zW → Prop) : z_st1 (tX1_meet 64) 64 lv st w nx K Rt = K 64 lv st w := id rfl
theorem dX1_meet_25 : decode cX1_meet 25 = .ok (.invokevirtual 21, 3) := by decide +kernel
theorem dX1_meet_55 : decode cX1_meet 55 = .ok (.invokevirtual 27, 3) := by decide +kernel
theorem dX1_meet_64 : decode cX1_meet 64 = .ok (.invokevirtual 31, 3) := by decide +kernel

def tmX2_init (pc : Nat) : zI := match pc with
  | 0 => (1, 0, 0, 1, 0)
  | 4 => (1, 0, 0, 5, 0)
  | 5 => (6, 0, 0, 8, 1600)
  | 13 => (1, 0, 0, 14, 0)
  | 14 => (6, 0, 0, 16, 8)
  | 21 => (55, 0, 0, 22, 0)
  | _ => (99, 0, 0, 0, 0)
def tX2_init (pc : Nat) : zI := if pc < 22 then tmX2_init pc else (99, 0, 0, 0, 0)
theorem tkX2_init : z_tab RX2 wsX2_init 1 none cX2_init 22 tX2_init := z_tab_of (tm := tmX2_init) (by decide +kernel)
theorem sX2_init_0 (lv : zL) (st : List Value) (w : zW) (nx K : Nat → zL → List Value → zW → Prop) (Rt : Option Value → zW → Prop) : z_st1 (tX2_init 0) 0 lv st w nx K Rt = (z_la lv 0 (fun x => nx 1 lv (.ref x :: st) w)) := id rfl
theorem sX2_init_4 (lv : zL) (st : List Value) (w : zW) (nx K : Nat → zL → List Value → zW → Prop) (Rt : Option Value → zW → Prop) : z_st1 (tX2_init 4) 4 lv st w nx K Rt = (z_la lv 0 (fun x => nx 5 lv (.ref x :: st) w)) := id rfl
theorem sX2_init_5 (lv : zL) (st : List Value) (w : zW) (nx K : Nat → zL → List Value → zW → Prop) (Rt : Option Value → zW → Prop) : z_st1 (tX2_init 5) 5 lv st w nx K Rt = (nx 8 lv (.int (1600 : Int32) :: st) w) := id rfl
theorem sX2_init_13 (lv : zL) (st : List Value) (w : zW) (nx K : Nat → zL → List Value → zW → Prop) (Rt : Option Value → zW → Prop) : z_st1 (tX2_init 13) 13 lv st w nx K Rt = (z_la lv 0 (fun x => nx 14 lv (.ref x :: st) w)) := id rfl
theorem sX2_init_14 (lv : zL) (st : List Value) (w : zW) (nx K : Nat → zL → List Value → zW → Prop) (Rt : Option Value → zW → Prop) : z_st1 (tX2_init 14) 14 lv st w nx K Rt = (nx 16 lv (.int (8 : Int32) :: st) w) := id rfl
theorem sX2_init_21 (lv : zL) (st : List Value) (w : zW) (nx K : Nat → zL → List Value → zW → Prop) (Rt : Option Value → zW → Prop) : z_st1 (tX2_init 21) 21 lv st w nx K Rt = (z_e0 st (Rt none w)) := id rfl
theorem sX2_init_1 (lv : zL) (st : List Value) (w : zW) (nx K : Nat → zL → List Value → zW → Prop) (Rt : Option Value → zW → Prop) : z_st1 (tX2_init 1) 1 lv st w nx K Rt = K 1 lv st w := id rfl
theorem sX2_init_8 (lv : zL) (st : List Value) (w : zW) (nx K : Nat → zL → List Value → zW → Prop) (Rt : Option Value → zW → Prop) : z_st1 (tX2_init 8) 8 lv st w nx K Rt = K 8 lv st w := id rfl
theorem sX2_init_10 (lv : zL) (st : List Value) (w : zW) (nx K : Nat → zL → List Value → zW → Prop) (Rt : Option Value → zW → Prop) : z_st1 (tX2_init 10) 10 lv st w nx K Rt = K 10 lv st w := id rfl
theorem sX2_init_16 (lv : zL) (st : List Value) (w : zW) (nx K : Nat → zL → List Value → zW → Prop) (Rt : Option Value → zW → Prop) : z_st1 (tX2_init 16) 16 lv st w nx K Rt = K 16 lv st w := id rfl
theorem sX2_init_18 (lv : zL) (st : List Value) (w : zW) (nx K : Nat → zL → List Value → zW → Prop) (Rt : Option Value → zW → Prop) : z_st1 (tX2_init 18) 18 lv st w nx K Rt = K 18 lv st w := id rfl
theorem dX2_init_1 : decode cX2_init 1 = .ok (.invokespecial 3, 3) := by decide +kernel
theorem dX2_init_8 : decode cX2_init 8 = .ok (.newarray .int, 2) := by decide +kernel
theorem dX2_init_10 : decode cX2_init 10 = .ok (.putfield 9, 3) := by decide +kernel
theorem dX2_init_16 : decode cX2_init 16 = .ok (.newarray .int, 2) := by decide +kernel
theorem dX2_init_18 : decode cX2_init 18 = .ok (.putfield 15, 3) := by decide +kernel

def tmX2_all (pc : Nat) : zI := match pc with
  | 0 => (1, 0, 0, 1, 0)
  | 1 => (46, 3, 2, 4, 0)
  | 4 => (53, 0, 0, 5, 0)
  | _ => (99, 0, 0, 0, 0)
def tX2_all (pc : Nat) : zI := if pc < 5 then tmX2_all pc else (99, 0, 0, 0, 0)
theorem tkX2_all : z_tab RX2 wsX2_all 1 (some .int) cX2_all 5 tX2_all := z_tab_of (tm := tmX2_all) (by decide +kernel)
theorem sX2_all_0 (lv : zL) (st : List Value) (w : zW) (nx K : Nat → zL → List Value → zW → Prop) (Rt : Option Value → zW → Prop) : z_st1 (tX2_all 0) 0 lv st w nx K Rt = (z_la lv 0 (fun x => nx 1 lv (.ref x :: st) w)) := id rfl
theorem sX2_all_1 (lv : zL) (st : List Value) (w : zW) (nx K : Nat → zL → List Value → zW → Prop) (Rt : Option Value → zW → Prop) : z_st1 (tX2_all 1) 1 lv st w nx K Rt = (z_1a st (fun x r => z_ob w x 3 (fun fs => z_fl fs 2 (fun u => nx 4 lv (u :: r) w)))) := id rfl
theorem sX2_all_4 (lv : zL) (st : List Value) (w : zW) (nx K : Nat → zL → List Value → zW → Prop) (Rt : Option Value → zW → Prop) : z_st1 (tX2_all 4) 4 lv st w nx K Rt = (z_e1 st (fun x => Rt (some (.int x)) w)) := id rfl

def tmX2_held (pc : Nat) : zI := match pc with
  | 0 => (0, 1, 0, 1, 0)
  | 1 => (36, 10, 0, 4, 0)
  | 4 => (0, 1, 0, 5, 0)
  | 5 => (6, 0, 0, 7, 8)
  | 7 => (42, 14, 0, 10, 0)
  | 10 => (6, 0, 0, 11, 0)
  | 11 => (33, 20, 0, 14, 0)
  | 14 => (1, 0, 0, 15, 0)
  | 15 => (46, 3, 1, 18, 0)
  | 18 => (0, 1, 0, 19, 0)
  | 19 => (48, 0, 0, 20, 0)
  | 20 => (53, 0, 0, 21, 0)
  | _ => (99, 0, 0, 0, 0)
def tX2_held (pc : Nat) : zI := if pc < 21 then tmX2_held pc else (99, 0, 0, 0, 0)
theorem tkX2_held : z_tab RX2 wsX2_held 2 (some .int) cX2_held 21 tX2_held := z_tab_of (tm := tmX2_held) (by decide +kernel)
theorem sX2_held_0 (lv : zL) (st : List Value) (w : zW) (nx K : Nat → zL → List Value → zW → Prop) (Rt : Option Value → zW → Prop) : z_st1 (tX2_held 0) 0 lv st w nx K Rt = (z_li lv 1 (fun x => nx 1 lv (.int x :: st) w)) := id rfl
theorem sX2_held_1 (lv : zL) (st : List Value) (w : zW) (nx K : Nat → zL → List Value → zW → Prop) (Rt : Option Value → zW → Prop) : z_st1 (tX2_held 1) 1 lv st w nx K Rt = (z_1i st (fun x r => (x < 0 → nx 10 lv r w) ∧ (¬ x < 0 → nx 4 lv r w))) := id rfl
theorem sX2_held_4 (lv : zL) (st : List Value) (w : zW) (nx K : Nat → zL → List Value → zW → Prop) (Rt : Option Value → zW → Prop) : z_st1 (tX2_held 4) 4 lv st w nx K Rt = (z_li lv 1 (fun x => nx 5 lv (.int x :: st) w)) := id rfl
theorem sX2_held_5 (lv : zL) (st : List Value) (w : zW) (nx K : Nat → zL → List Value → zW → Prop) (Rt : Option Value → zW → Prop) : z_st1 (tX2_held 5) 5 lv st w nx K Rt = (nx 7 lv (.int (8 : Int32) :: st) w) := id rfl
theorem sX2_held_7 (lv : zL) (st : List Value) (w : zW) (nx K : Nat → zL → List Value → zW → Prop) (Rt : Option Value → zW → Prop) : z_st1 (tX2_held 7) 7 lv st w nx K Rt = (z_2i st (fun x y r => (x < y → nx 14 lv r w) ∧ (¬ x < y → nx 10 lv r w))) := id rfl
theorem sX2_held_10 (lv : zL) (st : List Value) (w : zW) (nx K : Nat → zL → List Value → zW → Prop) (Rt : Option Value → zW → Prop) : z_st1 (tX2_held 10) 10 lv st w nx K Rt = (nx 11 lv (.int (0 : Int32) :: st) w) := id rfl
theorem sX2_held_11 (lv : zL) (st : List Value) (w : zW) (nx K : Nat → zL → List Value → zW → Prop) (Rt : Option Value → zW → Prop) : z_st1 (tX2_held 11) 11 lv st w nx K Rt = (nx 20 lv st w) := id rfl
theorem sX2_held_14 (lv : zL) (st : List Value) (w : zW) (nx K : Nat → zL → List Value → zW → Prop) (Rt : Option Value → zW → Prop) : z_st1 (tX2_held 14) 14 lv st w nx K Rt = (z_la lv 0 (fun x => nx 15 lv (.ref x :: st) w)) := id rfl
theorem sX2_held_15 (lv : zL) (st : List Value) (w : zW) (nx K : Nat → zL → List Value → zW → Prop) (Rt : Option Value → zW → Prop) : z_st1 (tX2_held 15) 15 lv st w nx K Rt = (z_1a st (fun x r => z_ob w x 3 (fun fs => z_fl fs 1 (fun u => nx 18 lv (u :: r) w)))) := id rfl
theorem sX2_held_18 (lv : zL) (st : List Value) (w : zW) (nx K : Nat → zL → List Value → zW → Prop) (Rt : Option Value → zW → Prop) : z_st1 (tX2_held 18) 18 lv st w nx K Rt = (z_li lv 1 (fun x => nx 19 lv (.int x :: st) w)) := id rfl
theorem sX2_held_19 (lv : zL) (st : List Value) (w : zW) (nx K : Nat → zL → List Value → zW → Prop) (Rt : Option Value → zW → Prop) : z_st1 (tX2_held 19) 19 lv st w nx K Rt = (z_ia st (fun x i r => z_ar0 w x (fun m g => vp_in i m ∧ nx 20 lv (.int (g i.toNatClampNeg) :: r) w))) := id rfl
theorem sX2_held_20 (lv : zL) (st : List Value) (w : zW) (nx K : Nat → zL → List Value → zW → Prop) (Rt : Option Value → zW → Prop) : z_st1 (tX2_held 20) 20 lv st w nx K Rt = (z_e1 st (fun x => Rt (some (.int x)) w)) := id rfl

def tmX2_at (pc : Nat) : zI := match pc with
  | 0 => (0, 2, 0, 1, 0)
  | 1 => (36, 13, 0, 4, 0)
  | 4 => (0, 2, 0, 5, 0)
  | 5 => (1, 0, 0, 6, 0)
  | 6 => (0, 1, 0, 7, 0)
  | 10 => (42, 17, 0, 13, 0)
  | 13 => (6, 0, 0, 14, 0)
  | 14 => (33, 29, 0, 17, 0)
  | 17 => (1, 0, 0, 18, 0)
  | 18 => (46, 3, 0, 21, 0)
  | 21 => (0, 1, 0, 22, 0)
  | 22 => (6, 0, 0, 25, 200)
  | 25 => (10, 0, 0, 26, 0)
  | 26 => (0, 2, 0, 27, 0)
  | 27 => (8, 0, 0, 28, 0)
  | 28 => (48, 0, 0, 29, 0)
  | 29 => (53, 0, 0, 30, 0)
  | _ => (99, 0, 0, 0, 0)
def tX2_at (pc : Nat) : zI := if pc < 30 then tmX2_at pc else (99, 0, 0, 0, 0)
theorem tkX2_at : z_tab RX2 wsX2_at 3 (some .int) cX2_at 30 tX2_at := z_tab_of (tm := tmX2_at) (by decide +kernel)
theorem sX2_at_0 (lv : zL) (st : List Value) (w : zW) (nx K : Nat → zL → List Value → zW → Prop) (Rt : Option Value → zW → Prop) : z_st1 (tX2_at 0) 0 lv st w nx K Rt = (z_li lv 2 (fun x => nx 1 lv (.int x :: st) w)) := id rfl
theorem sX2_at_1 (lv : zL) (st : List Value) (w : zW) (nx K : Nat → zL → List Value → zW → Prop) (Rt : Option Value → zW → Prop) : z_st1 (tX2_at 1) 1 lv st w nx K Rt = (z_1i st (fun x r => (x < 0 → nx 13 lv r w) ∧ (¬ x < 0 → nx 4 lv r w))) := id rfl
theorem sX2_at_4 (lv : zL) (st : List Value) (w : zW) (nx K : Nat → zL → List Value → zW → Prop) (Rt : Option Value → zW → Prop) : z_st1 (tX2_at 4) 4 lv st w nx K Rt = (z_li lv 2 (fun x => nx 5 lv (.int x :: st) w)) := id rfl
theorem sX2_at_5 (lv : zL) (st : List Value) (w : zW) (nx K : Nat → zL → List Value → zW → Prop) (Rt : Option Value → zW → Prop) : z_st1 (tX2_at 5) 5 lv st w nx K Rt = (z_la lv 0 (fun x => nx 6 lv (.ref x :: st) w)) := id rfl
theorem sX2_at_6 (lv : zL) (st : List Value) (w : zW) (nx K : Nat → zL → List Value → zW → Prop) (Rt : Option Value → zW → Prop) : z_st1 (tX2_at 6) 6 lv st w nx K Rt = (z_li lv 1 (fun x => nx 7 lv (.int x :: st) w)) := id rfl
theorem sX2_at_10 (lv : zL) (st : List Value) (w : zW) (nx K : Nat → zL → List Value → zW → Prop) (Rt : Option Value → zW → Prop) : z_st1 (tX2_at 10) 10 lv st w nx K Rt = (z_2i st (fun x y r => (x < y → nx 17 lv r w) ∧ (¬ x < y → nx 13 lv r w))) := id rfl
theorem sX2_at_13 (lv : zL) (st : List Value) (w : zW) (nx K : Nat → zL → List Value → zW → Prop) (Rt : Option Value → zW → Prop) : z_st1 (tX2_at 13) 13 lv st w nx K Rt = (nx 14 lv (.int (0 : Int32) :: st) w) := id rfl
theorem sX2_at_14 (lv : zL) (st : List Value) (w : zW) (nx K : Nat → zL → List Value → zW → Prop) (Rt : Option Value → zW → Prop) : z_st1 (tX2_at 14) 14 lv st w nx K Rt = (nx 29 lv st w) := id rfl
theorem sX2_at_17 (lv : zL) (st : List Value) (w : zW) (nx K : Nat → zL → List Value → zW → Prop) (Rt : Option Value → zW → Prop) : z_st1 (tX2_at 17) 17 lv st w nx K Rt = (z_la lv 0 (fun x => nx 18 lv (.ref x :: st) w)) := id rfl
theorem sX2_at_18 (lv : zL) (st : List Value) (w : zW) (nx K : Nat → zL → List Value → zW → Prop) (Rt : Option Value → zW → Prop) : z_st1 (tX2_at 18) 18 lv st w nx K Rt = (z_1a st (fun x r => z_ob w x 3 (fun fs => z_fl fs 0 (fun u => nx 21 lv (u :: r) w)))) := id rfl
theorem sX2_at_21 (lv : zL) (st : List Value) (w : zW) (nx K : Nat → zL → List Value → zW → Prop) (Rt : Option Value → zW → Prop) : z_st1 (tX2_at 21) 21 lv st w nx K Rt = (z_li lv 1 (fun x => nx 22 lv (.int x :: st) w)) := id rfl
theorem sX2_at_22 (lv : zL) (st : List Value) (w : zW) (nx K : Nat → zL → List Value → zW → Prop) (Rt : Option Value → zW → Prop) : z_st1 (tX2_at 22) 22 lv st w nx K Rt = (nx 25 lv (.int (200 : Int32) :: st) w) := id rfl
theorem sX2_at_25 (lv : zL) (st : List Value) (w : zW) (nx K : Nat → zL → List Value → zW → Prop) (Rt : Option Value → zW → Prop) : z_st1 (tX2_at 25) 25 lv st w nx K Rt = (z_2i st (fun x y r => nx 26 lv (.int (x * y) :: r) w)) := id rfl
theorem sX2_at_26 (lv : zL) (st : List Value) (w : zW) (nx K : Nat → zL → List Value → zW → Prop) (Rt : Option Value → zW → Prop) : z_st1 (tX2_at 26) 26 lv st w nx K Rt = (z_li lv 2 (fun x => nx 27 lv (.int x :: st) w)) := id rfl
theorem sX2_at_27 (lv : zL) (st : List Value) (w : zW) (nx K : Nat → zL → List Value → zW → Prop) (Rt : Option Value → zW → Prop) : z_st1 (tX2_at 27) 27 lv st w nx K Rt = (z_2i st (fun x y r => nx 28 lv (.int (x + y) :: r) w)) := id rfl
theorem sX2_at_28 (lv : zL) (st : List Value) (w : zW) (nx K : Nat → zL → List Value → zW → Prop) (Rt : Option Value → zW → Prop) : z_st1 (tX2_at 28) 28 lv st w nx K Rt = (z_ia st (fun x i r => z_ar0 w x (fun m g => vp_in i m ∧ nx 29 lv (.int (g i.toNatClampNeg) :: r) w))) := id rfl
theorem sX2_at_29 (lv : zL) (st : List Value) (w : zW) (nx K : Nat → zL → List Value → zW → Prop) (Rt : Option Value → zW → Prop) : z_st1 (tX2_at 29) 29 lv st w nx K Rt = (z_e1 st (fun x => Rt (some (.int x)) w)) := id rfl
theorem sX2_at_7 (lv : zL) (st : List Value) (w : zW) (nx K : Nat → zL → List Value → zW → Prop) (Rt : Option Value → zW → Prop) : z_st1 (tX2_at 7) 7 lv st w nx K Rt = K 7 lv st w := id rfl
theorem dX2_at_7 : decode cX2_at 7 = .ok (.invokevirtual 22, 3) := by decide +kernel

def tmX2_add (pc : Nat) : zI := match pc with
  | 0 => (0, 1, 0, 1, 0)
  | 1 => (36, 22, 0, 4, 0)
  | 4 => (0, 1, 0, 5, 0)
  | 5 => (6, 0, 0, 7, 8)
  | 7 => (43, 22, 0, 10, 0)
  | 10 => (1, 0, 0, 11, 0)
  | 11 => (46, 3, 1, 14, 0)
  | 14 => (0, 1, 0, 15, 0)
  | 15 => (48, 0, 0, 16, 0)
  | 16 => (6, 0, 0, 19, 200)
  | 19 => (42, 24, 0, 22, 0)
  | 22 => (6, 0, 0, 23, (-1))
  | 23 => (53, 0, 0, 24, 0)
  | 24 => (1, 0, 0, 25, 0)
  | 25 => (46, 3, 0, 28, 0)
  | 28 => (0, 1, 0, 29, 0)
  | 29 => (6, 0, 0, 32, 200)
  | 32 => (10, 0, 0, 33, 0)
  | 33 => (1, 0, 0, 34, 0)
  | 34 => (46, 3, 1, 37, 0)
  | 37 => (0, 1, 0, 38, 0)
  | 38 => (48, 0, 0, 39, 0)
  | 39 => (8, 0, 0, 40, 0)
  | 40 => (0, 2, 0, 41, 0)
  | 41 => (49, 0, 0, 42, 0)
  | 42 => (1, 0, 0, 43, 0)
  | 43 => (46, 3, 1, 46, 0)
  | 46 => (0, 1, 0, 47, 0)
  | 47 => (32, 0, 0, 48, 0)
  | 48 => (48, 0, 0, 49, 0)
  | 49 => (6, 0, 0, 50, 1)
  | 50 => (8, 0, 0, 51, 0)
  | 51 => (49, 0, 0, 52, 0)
  | 52 => (1, 0, 0, 53, 0)
  | 53 => (29, 0, 0, 54, 0)
  | 54 => (46, 3, 2, 57, 0)
  | 57 => (6, 0, 0, 58, 1)
  | 58 => (8, 0, 0, 59, 0)
  | 59 => (47, 3, 2, 62, 0)
  | 62 => (1, 0, 0, 63, 0)
  | 63 => (46, 3, 1, 66, 0)
  | 66 => (0, 1, 0, 67, 0)
  | 67 => (48, 0, 0, 68, 0)
  | 68 => (53, 0, 0, 69, 0)
  | _ => (99, 0, 0, 0, 0)
def tX2_add (pc : Nat) : zI := if pc < 69 then tmX2_add pc else (99, 0, 0, 0, 0)
theorem tkX2_add : z_tab RX2 wsX2_add 3 (some .int) cX2_add 69 tX2_add := z_tab_of (tm := tmX2_add) (by decide +kernel)
theorem sX2_add_0 (lv : zL) (st : List Value) (w : zW) (nx K : Nat → zL → List Value → zW → Prop) (Rt : Option Value → zW → Prop) : z_st1 (tX2_add 0) 0 lv st w nx K Rt = (z_li lv 1 (fun x => nx 1 lv (.int x :: st) w)) := id rfl
theorem sX2_add_1 (lv : zL) (st : List Value) (w : zW) (nx K : Nat → zL → List Value → zW → Prop) (Rt : Option Value → zW → Prop) : z_st1 (tX2_add 1) 1 lv st w nx K Rt = (z_1i st (fun x r => (x < 0 → nx 22 lv r w) ∧ (¬ x < 0 → nx 4 lv r w))) := id rfl
theorem sX2_add_4 (lv : zL) (st : List Value) (w : zW) (nx K : Nat → zL → List Value → zW → Prop) (Rt : Option Value → zW → Prop) : z_st1 (tX2_add 4) 4 lv st w nx K Rt = (z_li lv 1 (fun x => nx 5 lv (.int x :: st) w)) := id rfl
theorem sX2_add_5 (lv : zL) (st : List Value) (w : zW) (nx K : Nat → zL → List Value → zW → Prop) (Rt : Option Value → zW → Prop) : z_st1 (tX2_add 5) 5 lv st w nx K Rt = (nx 7 lv (.int (8 : Int32) :: st) w) := id rfl
theorem sX2_add_7 (lv : zL) (st : List Value) (w : zW) (nx K : Nat → zL → List Value → zW → Prop) (Rt : Option Value → zW → Prop) : z_st1 (tX2_add 7) 7 lv st w nx K Rt = (z_2i st (fun x y r => (y ≤ x → nx 22 lv r w) ∧ (¬ y ≤ x → nx 10 lv r w))) := id rfl
theorem sX2_add_10 (lv : zL) (st : List Value) (w : zW) (nx K : Nat → zL → List Value → zW → Prop) (Rt : Option Value → zW → Prop) : z_st1 (tX2_add 10) 10 lv st w nx K Rt = (z_la lv 0 (fun x => nx 11 lv (.ref x :: st) w)) := id rfl
theorem sX2_add_11 (lv : zL) (st : List Value) (w : zW) (nx K : Nat → zL → List Value → zW → Prop) (Rt : Option Value → zW → Prop) : z_st1 (tX2_add 11) 11 lv st w nx K Rt = (z_1a st (fun x r => z_ob w x 3 (fun fs => z_fl fs 1 (fun u => nx 14 lv (u :: r) w)))) := id rfl
theorem sX2_add_14 (lv : zL) (st : List Value) (w : zW) (nx K : Nat → zL → List Value → zW → Prop) (Rt : Option Value → zW → Prop) : z_st1 (tX2_add 14) 14 lv st w nx K Rt = (z_li lv 1 (fun x => nx 15 lv (.int x :: st) w)) := id rfl
theorem sX2_add_15 (lv : zL) (st : List Value) (w : zW) (nx K : Nat → zL → List Value → zW → Prop) (Rt : Option Value → zW → Prop) : z_st1 (tX2_add 15) 15 lv st w nx K Rt = (z_ia st (fun x i r => z_ar0 w x (fun m g => vp_in i m ∧ nx 16 lv (.int (g i.toNatClampNeg) :: r) w))) := id rfl
theorem sX2_add_16 (lv : zL) (st : List Value) (w : zW) (nx K : Nat → zL → List Value → zW → Prop) (Rt : Option Value → zW → Prop) : z_st1 (tX2_add 16) 16 lv st w nx K Rt = (nx 19 lv (.int (200 : Int32) :: st) w) := id rfl
theorem sX2_add_19 (lv : zL) (st : List Value) (w : zW) (nx K : Nat → zL → List Value → zW → Prop) (Rt : Option Value → zW → Prop) : z_st1 (tX2_add 19) 19 lv st w nx K Rt = (z_2i st (fun x y r => (x < y → nx 24 lv r w) ∧ (¬ x < y → nx 22 lv r w))) := id rfl
theorem sX2_add_22 (lv : zL) (st : List Value) (w : zW) (nx K : Nat → zL → List Value → zW → Prop) (Rt : Option Value → zW → Prop) : z_st1 (tX2_add 22) 22 lv st w nx K Rt = (nx 23 lv (.int (-1 : Int32) :: st) w) := id rfl
theorem sX2_add_23 (lv : zL) (st : List Value) (w : zW) (nx K : Nat → zL → List Value → zW → Prop) (Rt : Option Value → zW → Prop) : z_st1 (tX2_add 23) 23 lv st w nx K Rt = (z_e1 st (fun x => Rt (some (.int x)) w)) := id rfl
theorem sX2_add_24 (lv : zL) (st : List Value) (w : zW) (nx K : Nat → zL → List Value → zW → Prop) (Rt : Option Value → zW → Prop) : z_st1 (tX2_add 24) 24 lv st w nx K Rt = (z_la lv 0 (fun x => nx 25 lv (.ref x :: st) w)) := id rfl
theorem sX2_add_25 (lv : zL) (st : List Value) (w : zW) (nx K : Nat → zL → List Value → zW → Prop) (Rt : Option Value → zW → Prop) : z_st1 (tX2_add 25) 25 lv st w nx K Rt = (z_1a st (fun x r => z_ob w x 3 (fun fs => z_fl fs 0 (fun u => nx 28 lv (u :: r) w)))) := id rfl
theorem sX2_add_28 (lv : zL) (st : List Value) (w : zW) (nx K : Nat → zL → List Value → zW → Prop) (Rt : Option Value → zW → Prop) : z_st1 (tX2_add 28) 28 lv st w nx K Rt = (z_li lv 1 (fun x => nx 29 lv (.int x :: st) w)) := id rfl
theorem sX2_add_29 (lv : zL) (st : List Value) (w : zW) (nx K : Nat → zL → List Value → zW → Prop) (Rt : Option Value → zW → Prop) : z_st1 (tX2_add 29) 29 lv st w nx K Rt = (nx 32 lv (.int (200 : Int32) :: st) w) := id rfl
theorem sX2_add_32 (lv : zL) (st : List Value) (w : zW) (nx K : Nat → zL → List Value → zW → Prop) (Rt : Option Value → zW → Prop) : z_st1 (tX2_add 32) 32 lv st w nx K Rt = (z_2i st (fun x y r => nx 33 lv (.int (x * y) :: r) w)) := id rfl
theorem sX2_add_33 (lv : zL) (st : List Value) (w : zW) (nx K : Nat → zL → List Value → zW → Prop) (Rt : Option Value → zW → Prop) : z_st1 (tX2_add 33) 33 lv st w nx K Rt = (z_la lv 0 (fun x => nx 34 lv (.ref x :: st) w)) := id rfl
theorem sX2_add_34 (lv : zL) (st : List Value) (w : zW) (nx K : Nat → zL → List Value → zW → Prop) (Rt : Option Value → zW → Prop) : z_st1 (tX2_add 34) 34 lv st w nx K Rt = (z_1a st (fun x r => z_ob w x 3 (fun fs => z_fl fs 1 (fun u => nx 37 lv (u :: r) w)))) := id rfl
theorem sX2_add_37 (lv : zL) (st : List Value) (w : zW) (nx K : Nat → zL → List Value → zW → Prop) (Rt : Option Value → zW → Prop) : z_st1 (tX2_add 37) 37 lv st w nx K Rt = (z_li lv 1 (fun x => nx 38 lv (.int x :: st) w)) := id rfl
theorem sX2_add_38 (lv : zL) (st : List Value) (w : zW) (nx K : Nat → zL → List Value → zW → Prop) (Rt : Option Value → zW → Prop) : z_st1 (tX2_add 38) 38 lv st w nx K Rt = (z_ia st (fun x i r => z_ar0 w x (fun m g => vp_in i m ∧ nx 39 lv (.int (g i.toNatClampNeg) :: r) w))) := id rfl
theorem sX2_add_39 (lv : zL) (st : List Value) (w : zW) (nx K : Nat → zL → List Value → zW → Prop) (Rt : Option Value → zW → Prop) : z_st1 (tX2_add 39) 39 lv st w nx K Rt = (z_2i st (fun x y r => nx 40 lv (.int (x + y) :: r) w)) := id rfl
theorem sX2_add_40 (lv : zL) (st : List Value) (w : zW) (nx K : Nat → zL → List Value → zW → Prop) (Rt : Option Value → zW → Prop) : z_st1 (tX2_add 40) 40 lv st w nx K Rt = (z_li lv 2 (fun x => nx 41 lv (.int x :: st) w)) := id rfl
theorem sX2_add_41 (lv : zL) (st : List Value) (w : zW) (nx K : Nat → zL → List Value → zW → Prop) (Rt : Option Value → zW → Prop) : z_st1 (tX2_add 41) 41 lv st w nx K Rt = (z_iia st (fun x i u r => z_ar0 w x (fun m g => vp_in i m ∧ nx 42 lv r (z_up w x (.inl (0, m, .inl (upd g i.toNatClampNeg u))))))) := id rfl
theorem sX2_add_42 (lv : zL) (st : List Value) (w : zW) (nx K : Nat → zL → List Value → zW → Prop) (Rt : Option Value → zW → Prop) : z_st1 (tX2_add 42) 42 lv st w nx K Rt = (z_la lv 0 (fun x => nx 43 lv (.ref x :: st) w)) := id rfl
theorem sX2_add_43 (lv : zL) (st : List Value) (w : zW) (nx K : Nat → zL → List Value → zW → Prop) (Rt : Option Value → zW → Prop) : z_st1 (tX2_add 43) 43 lv st w nx K Rt = (z_1a st (fun x r => z_ob w x 3 (fun fs => z_fl fs 1 (fun u => nx 46 lv (u :: r) w)))) := id rfl
theorem sX2_add_46 (lv : zL) (st : List Value) (w : zW) (nx K : Nat → zL → List Value → zW → Prop) (Rt : Option Value → zW → Prop) : z_st1 (tX2_add 46) 46 lv st w nx K Rt = (z_li lv 1 (fun x => nx 47 lv (.int x :: st) w)) := id rfl
theorem sX2_add_47 (lv : zL) (st : List Value) (w : zW) (nx K : Nat → zL → List Value → zW → Prop) (Rt : Option Value → zW → Prop) : z_st1 (tX2_add 47) 47 lv st w nx K Rt = (z_dia st (fun x i r => nx 48 lv (.int i :: .ref x :: .int i :: .ref x :: r) w)) := id rfl
theorem sX2_add_48 (lv : zL) (st : List Value) (w : zW) (nx K : Nat → zL → List Value → zW → Prop) (Rt : Option Value → zW → Prop) : z_st1 (tX2_add 48) 48 lv st w nx K Rt = (z_ia st (fun x i r => z_ar0 w x (fun m g => vp_in i m ∧ nx 49 lv (.int (g i.toNatClampNeg) :: r) w))) := id rfl
theorem sX2_add_49 (lv : zL) (st : List Value) (w : zW) (nx K : Nat → zL → List Value → zW → Prop) (Rt : Option Value → zW → Prop) : z_st1 (tX2_add 49) 49 lv st w nx K Rt = (nx 50 lv (.int (1 : Int32) :: st) w) := id rfl
theorem sX2_add_50 (lv : zL) (st : List Value) (w : zW) (nx K : Nat → zL → List Value → zW → Prop) (Rt : Option Value → zW → Prop) : z_st1 (tX2_add 50) 50 lv st w nx K Rt = (z_2i st (fun x y r => nx 51 lv (.int (x + y) :: r) w)) := id rfl
theorem sX2_add_51 (lv : zL) (st : List Value) (w : zW) (nx K : Nat → zL → List Value → zW → Prop) (Rt : Option Value → zW → Prop) : z_st1 (tX2_add 51) 51 lv st w nx K Rt = (z_iia st (fun x i u r => z_ar0 w x (fun m g => vp_in i m ∧ nx 52 lv r (z_up w x (.inl (0, m, .inl (upd g i.toNatClampNeg u))))))) := id rfl
theorem sX2_add_52 (lv : zL) (st : List Value) (w : zW) (nx K : Nat → zL → List Value → zW → Prop) (Rt : Option Value → zW → Prop) : z_st1 (tX2_add 52) 52 lv st w nx K Rt = (z_la lv 0 (fun x => nx 53 lv (.ref x :: st) w)) := id rfl
theorem sX2_add_53 (lv : zL) (st : List Value) (w : zW) (nx K : Nat → zL → List Value → zW → Prop) (Rt : Option Value → zW → Prop) : z_st1 (tX2_add 53) 53 lv st w nx K Rt = (z_d1 st (fun x r => nx 54 lv (x :: x :: r) w)) := id rfl
theorem sX2_add_54 (lv : zL) (st : List Value) (w : zW) (nx K : Nat → zL → List Value → zW → Prop) (Rt : Option Value → zW → Prop) : z_st1 (tX2_add 54) 54 lv st w nx K Rt = (z_1a st (fun x r => z_ob w x 3 (fun fs => z_fl fs 2 (fun u => nx 57 lv (u :: r) w)))) := id rfl
theorem sX2_add_57 (lv : zL) (st : List Value) (w : zW) (nx K : Nat → zL → List Value → zW → Prop) (Rt : Option Value → zW → Prop) : z_st1 (tX2_add 57) 57 lv st w nx K Rt = (nx 58 lv (.int (1 : Int32) :: st) w) := id rfl
theorem sX2_add_58 (lv : zL) (st : List Value) (w : zW) (nx K : Nat → zL → List Value → zW → Prop) (Rt : Option Value → zW → Prop) : z_st1 (tX2_add 58) 58 lv st w nx K Rt = (z_2i st (fun x y r => nx 59 lv (.int (x + y) :: r) w)) := id rfl
theorem sX2_add_59 (lv : zL) (st : List Value) (w : zW) (nx K : Nat → zL → List Value → zW → Prop) (Rt : Option Value → zW → Prop) : z_st1 (tX2_add 59) 59 lv st w nx K Rt = (z_ia st (fun x i r => z_ob w x 3 (fun fs => 2 < fs.length ∧ nx 62 lv r (z_up w x (.inr (3, fs.set 2 (.int i))))))) := id rfl
theorem sX2_add_62 (lv : zL) (st : List Value) (w : zW) (nx K : Nat → zL → List Value → zW → Prop) (Rt : Option Value → zW → Prop) : z_st1 (tX2_add 62) 62 lv st w nx K Rt = (z_la lv 0 (fun x => nx 63 lv (.ref x :: st) w)) := id rfl
theorem sX2_add_63 (lv : zL) (st : List Value) (w : zW) (nx K : Nat → zL → List Value → zW → Prop) (Rt : Option Value → zW → Prop) : z_st1 (tX2_add 63) 63 lv st w nx K Rt = (z_1a st (fun x r => z_ob w x 3 (fun fs => z_fl fs 1 (fun u => nx 66 lv (u :: r) w)))) := id rfl
theorem sX2_add_66 (lv : zL) (st : List Value) (w : zW) (nx K : Nat → zL → List Value → zW → Prop) (Rt : Option Value → zW → Prop) : z_st1 (tX2_add 66) 66 lv st w nx K Rt = (z_li lv 1 (fun x => nx 67 lv (.int x :: st) w)) := id rfl
theorem sX2_add_67 (lv : zL) (st : List Value) (w : zW) (nx K : Nat → zL → List Value → zW → Prop) (Rt : Option Value → zW → Prop) : z_st1 (tX2_add 67) 67 lv st w nx K Rt = (z_ia st (fun x i r => z_ar0 w x (fun m g => vp_in i m ∧ nx 68 lv (.int (g i.toNatClampNeg) :: r) w))) := id rfl
theorem sX2_add_68 (lv : zL) (st : List Value) (w : zW) (nx K : Nat → zL → List Value → zW → Prop) (Rt : Option Value → zW → Prop) : z_st1 (tX2_add 68) 68 lv st w nx K Rt = (z_e1 st (fun x => Rt (some (.int x)) w)) := id rfl

def tmX2_clear (pc : Nat) : zI := match pc with
  | 0 => (6, 0, 0, 1, 0)
  | 1 => (3, 1, 0, 2, 0)
  | 2 => (0, 1, 0, 3, 0)
  | 3 => (6, 0, 0, 5, 8)
  | 5 => (43, 21, 0, 8, 0)
  | 8 => (1, 0, 0, 9, 0)
  | 9 => (46, 3, 1, 12, 0)
  | 12 => (0, 1, 0, 13, 0)
  | 13 => (6, 0, 0, 14, 0)
  | 14 => (49, 0, 0, 15, 0)
  | 15 => (7, 1, 0, 18, 1)
  | 18 => (33, 2, 0, 21, 0)
  | 21 => (1, 0, 0, 22, 0)
  | 22 => (6, 0, 0, 23, 0)
  | 23 => (47, 3, 2, 26, 0)
  | 26 => (55, 0, 0, 27, 0)
  | _ => (99, 0, 0, 0, 0)
def tX2_clear (pc : Nat) : zI := if pc < 27 then tmX2_clear pc else (99, 0, 0, 0, 0)
theorem tkX2_clear : z_tab RX2 wsX2_clear 2 none cX2_clear 27 tX2_clear := z_tab_of (tm := tmX2_clear) (by decide +kernel)
theorem sX2_clear_0 (lv : zL) (st : List Value) (w : zW) (nx K : Nat → zL → List Value → zW → Prop) (Rt : Option Value → zW → Prop) : z_st1 (tX2_clear 0) 0 lv st w nx K Rt = (nx 1 lv (.int (0 : Int32) :: st) w) := id rfl
theorem sX2_clear_1 (lv : zL) (st : List Value) (w : zW) (nx K : Nat → zL → List Value → zW → Prop) (Rt : Option Value → zW → Prop) : z_st1 (tX2_clear 1) 1 lv st w nx K Rt = (z_1i st (fun x r => z_ok1 lv 1 = true ∧ nx 2 (lv.set 1 (some (.int x))) r w)) := id rfl
theorem sX2_clear_2 (lv : zL) (st : List Value) (w : zW) (nx K : Nat → zL → List Value → zW → Prop) (Rt : Option Value → zW → Prop) : z_st1 (tX2_clear 2) 2 lv st w nx K Rt = (z_li lv 1 (fun x => nx 3 lv (.int x :: st) w)) := id rfl
theorem sX2_clear_3 (lv : zL) (st : List Value) (w : zW) (nx K : Nat → zL → List Value → zW → Prop) (Rt : Option Value → zW → Prop) : z_st1 (tX2_clear 3) 3 lv st w nx K Rt = (nx 5 lv (.int (8 : Int32) :: st) w) := id rfl
theorem sX2_clear_5 (lv : zL) (st : List Value) (w : zW) (nx K : Nat → zL → List Value → zW → Prop) (Rt : Option Value → zW → Prop) : z_st1 (tX2_clear 5) 5 lv st w nx K Rt = (z_2i st (fun x y r => (y ≤ x → nx 21 lv r w) ∧ (¬ y ≤ x → nx 8 lv r w))) := id rfl
theorem sX2_clear_8 (lv : zL) (st : List Value) (w : zW) (nx K : Nat → zL → List Value → zW → Prop) (Rt : Option Value → zW → Prop) : z_st1 (tX2_clear 8) 8 lv st w nx K Rt = (z_la lv 0 (fun x => nx 9 lv (.ref x :: st) w)) := id rfl
theorem sX2_clear_9 (lv : zL) (st : List Value) (w : zW) (nx K : Nat → zL → List Value → zW → Prop) (Rt : Option Value → zW → Prop) : z_st1 (tX2_clear 9) 9 lv st w nx K Rt = (z_1a st (fun x r => z_ob w x 3 (fun fs => z_fl fs 1 (fun u => nx 12 lv (u :: r) w)))) := id rfl
theorem sX2_clear_12 (lv : zL) (st : List Value) (w : zW) (nx K : Nat → zL → List Value → zW → Prop) (Rt : Option Value → zW → Prop) : z_st1 (tX2_clear 12) 12 lv st w nx K Rt = (z_li lv 1 (fun x => nx 13 lv (.int x :: st) w)) := id rfl
theorem sX2_clear_13 (lv : zL) (st : List Value) (w : zW) (nx K : Nat → zL → List Value → zW → Prop) (Rt : Option Value → zW → Prop) : z_st1 (tX2_clear 13) 13 lv st w nx K Rt = (nx 14 lv (.int (0 : Int32) :: st) w) := id rfl
theorem sX2_clear_14 (lv : zL) (st : List Value) (w : zW) (nx K : Nat → zL → List Value → zW → Prop) (Rt : Option Value → zW → Prop) : z_st1 (tX2_clear 14) 14 lv st w nx K Rt = (z_iia st (fun x i u r => z_ar0 w x (fun m g => vp_in i m ∧ nx 15 lv r (z_up w x (.inl (0, m, .inl (upd g i.toNatClampNeg u))))))) := id rfl
theorem sX2_clear_15 (lv : zL) (st : List Value) (w : zW) (nx K : Nat → zL → List Value → zW → Prop) (Rt : Option Value → zW → Prop) : z_st1 (tX2_clear 15) 15 lv st w nx K Rt = (z_li lv 1 (fun x => z_ok1 lv 1 = true ∧ nx 18 (lv.set 1 (some (.int (x + (1 : Int32))))) st w)) := id rfl
theorem sX2_clear_18 (lv : zL) (st : List Value) (w : zW) (nx K : Nat → zL → List Value → zW → Prop) (Rt : Option Value → zW → Prop) : z_st1 (tX2_clear 18) 18 lv st w nx K Rt = (nx 2 lv st w) := id rfl
theorem sX2_clear_21 (lv : zL) (st : List Value) (w : zW) (nx K : Nat → zL → List Value → zW → Prop) (Rt : Option Value → zW → Prop) : z_st1 (tX2_clear 21) 21 lv st w nx K Rt = (z_la lv 0 (fun x => nx 22 lv (.ref x :: st) w)) := id rfl
theorem sX2_clear_22 (lv : zL) (st : List Value) (w : zW) (nx K : Nat → zL → List Value → zW → Prop) (Rt : Option Value → zW → Prop) : z_st1 (tX2_clear 22) 22 lv st w nx K Rt = (nx 23 lv (.int (0 : Int32) :: st) w) := id rfl
theorem sX2_clear_23 (lv : zL) (st : List Value) (w : zW) (nx K : Nat → zL → List Value → zW → Prop) (Rt : Option Value → zW → Prop) : z_st1 (tX2_clear 23) 23 lv st w nx K Rt = (z_ia st (fun x i r => z_ob w x 3 (fun fs => 2 < fs.length ∧ nx 26 lv r (z_up w x (.inr (3, fs.set 2 (.int i))))))) := id rfl
theorem sX2_clear_26 (lv : zL) (st : List Value) (w : zW) (nx K : Nat → zL → List Value → zW → Prop) (Rt : Option Value → zW → Prop) : z_st1 (tX2_clear 26) 26 lv st w nx K Rt = (z_e0 st (Rt none w)) := id rfl

def tmX2_firstOutOfOrder (pc : Nat) : zI := match pc with
  | 0 => (6, 0, 0, 1, 0)
  | 1 => (3, 3, 0, 2, 0)
  | 2 => (0, 3, 0, 3, 0)
  | 3 => (6, 0, 0, 5, 8)
  | 5 => (43, 64, 0, 8, 0)
  | 8 => (6, 0, 0, 9, 1)
  | 9 => (3, 4, 0, 11, 0)
  | 11 => (0, 4, 0, 13, 0)
  | 13 => (1, 0, 0, 14, 0)
  | 14 => (46, 3, 1, 17, 0)
  | 17 => (0, 3, 0, 18, 0)
  | 18 => (48, 0, 0, 19, 0)
  | 19 => (43, 58, 0, 22, 0)
  | 22 => (1, 2, 0, 23, 0)
  | 23 => (1, 1, 0, 24, 0)
  | 24 => (1, 0, 0, 25, 0)
  | 25 => (0, 3, 0, 26, 0)
  | 26 => (0, 4, 0, 28, 0)
  | 28 => (6, 0, 0, 29, 1)
  | 29 => (9, 0, 0, 30, 0)
  | 33 => (6, 0, 0, 34, 1)
  | 34 => (9, 0, 0, 35, 0)
  | 35 => (1, 0, 0, 36, 0)
  | 36 => (0, 3, 0, 37, 0)
  | 37 => (0, 4, 0, 39, 0)
  | 42 => (6, 0, 0, 43, 1)
  | 43 => (9, 0, 0, 44, 0)
  | 47 => (39, 52, 0, 50, 0)
  | 50 => (0, 3, 0, 51, 0)
  | 51 => (53, 0, 0, 52, 0)
  | 52 => (7, 4, 0, 55, 1)
  | 55 => (33, 11, 0, 58, 0)
  | 58 => (7, 3, 0, 61, 1)
  | 61 => (33, 2, 0, 64, 0)
  | 64 => (6, 0, 0, 65, (-1))
  | 65 => (53, 0, 0, 66, 0)
  | _ => (99, 0, 0, 0, 0)
def tX2_firstOutOfOrder (pc : Nat) : zI := if pc < 66 then tmX2_firstOutOfOrder pc else (99, 0, 0, 0, 0)
theorem tkX2_firstOutOfOrder : z_tab RX2 wsX2_firstOutOfOrder 5 (some .int) cX2_firstOutOfOrder 66 tX2_firstOutOfOrder := z_tab_of (tm := tmX2_firstOutOfOrder) (by decide +kernel)
theorem sX2_firstOutOfOrder_0 (lv : zL) (st : List Value) (w : zW) (nx K : Nat → zL → List Value → zW → Prop) (Rt : Option Value → zW → Prop) : z_st1 (tX2_firstOutOfOrder 0) 0 lv st w nx K Rt = (nx 1 lv (.int (0 : Int32) :: st) w) := id rfl
theorem sX2_firstOutOfOrder_1 (lv : zL) (st : List Value) (w : zW) (nx K : Nat → zL → List Value → zW → Prop) (Rt : Option Value → zW → Prop) : z_st1 (tX2_firstOutOfOrder 1) 1 lv st w nx K Rt = (z_1i st (fun x r => z_ok1 lv 3 = true ∧ nx 2 (lv.set 3 (some (.int x))) r w)) := id rfl
theorem sX2_firstOutOfOrder_2 (lv : zL) (st : List Value) (w : zW) (nx K : Nat → zL → List Value → zW → Prop) (Rt : Option Value → zW → Prop) : z_st1 (tX2_firstOutOfOrder 2) 2 lv st w nx K Rt = (z_li lv 3 (fun x => nx 3 lv (.int x :: st) w)) := id rfl
theorem sX2_firstOutOfOrder_3 (lv : zL) (st : List Value) (w : zW) (nx K : Nat → zL → List Value → zW → Prop) (Rt : Option Value → zW → Prop) : z_st1 (tX2_firstOutOfOrder 3) 3 lv st w nx K Rt = (nx 5 lv (.int (8 : Int32) :: st) w) := id rfl
theorem sX2_firstOutOfOrder_5 (lv : zL) (st : List Value) (w : zW) (nx K : Nat → zL → List Value → zW → Prop) (Rt : Option Value → zW → Prop) : z_st1 (tX2_firstOutOfOrder 5) 5 lv st w nx K Rt = (z_2i st (fun x y r => (y ≤ x → nx 64 lv r w) ∧ (¬ y ≤ x → nx 8 lv r w))) := id rfl
theorem sX2_firstOutOfOrder_8 (lv : zL) (st : List Value) (w : zW) (nx K : Nat → zL → List Value → zW → Prop) (Rt : Option Value → zW → Prop) : z_st1 (tX2_firstOutOfOrder 8) 8 lv st w nx K Rt = (nx 9 lv (.int (1 : Int32) :: st) w) := id rfl
theorem sX2_firstOutOfOrder_9 (lv : zL) (st : List Value) (w : zW) (nx K : Nat → zL → List Value → zW → Prop) (Rt : Option Value → zW → Prop) : z_st1 (tX2_firstOutOfOrder 9) 9 lv st w nx K Rt = (z_1i st (fun x r => z_ok1 lv 4 = true ∧ nx 11 (lv.set 4 (some (.int x))) r w)) := id rfl
theorem sX2_firstOutOfOrder_11 (lv : zL) (st : List Value) (w : zW) (nx K : Nat → zL → List Value → zW → Prop) (Rt : Option Value → zW → Prop) : z_st1 (tX2_firstOutOfOrder 11) 11 lv st w nx K Rt = (z_li lv 4 (fun x => nx 13 lv (.int x :: st) w)) := id rfl
theorem sX2_firstOutOfOrder_13 (lv : zL) (st : List Value) (w : zW) (nx K : Nat → zL → List Value → zW → Prop) (Rt : Option Value → zW → Prop) : z_st1 (tX2_firstOutOfOrder 13) 13 lv st w nx K Rt = (z_la lv 0 (fun x => nx 14 lv (.ref x :: st) w)) := id rfl
theorem sX2_firstOutOfOrder_14 (lv : zL) (st : List Value) (w : zW) (nx K : Nat → zL → List Value → zW → Prop) (Rt : Option Value → zW → Prop) : z_st1 (tX2_firstOutOfOrder 14) 14 lv st w nx K Rt = (z_1a st (fun x r => z_ob w x 3 (fun fs => z_fl fs 1 (fun u => nx 17 lv (u :: r) w)))) := id rfl
theorem sX2_firstOutOfOrder_17 (lv : zL) (st : List Value) (w : zW) (nx K : Nat → zL → List Value → zW → Prop) (Rt : Option Value → zW → Prop) : z_st1 (tX2_firstOutOfOrder 17) 17 lv st w nx K Rt = (z_li lv 3 (fun x => nx 18 lv (.int x :: st) w)) := id rfl
theorem sX2_firstOutOfOrder_18 (lv : zL) (st : List Value) (w : zW) (nx K : Nat → zL → List Value → zW → Prop) (Rt : Option Value → zW → Prop) : z_st1 (tX2_firstOutOfOrder 18) 18 lv st w nx K Rt = (z_ia st (fun x i r => z_ar0 w x (fun m g => vp_in i m ∧ nx 19 lv (.int (g i.toNatClampNeg) :: r) w))) := id rfl
theorem sX2_firstOutOfOrder_19 (lv : zL) (st : List Value) (w : zW) (nx K : Nat → zL → List Value → zW → Prop) (Rt : Option Value → zW → Prop) : z_st1 (tX2_firstOutOfOrder 19) 19 lv st w nx K Rt = (z_2i st (fun x y r => (y ≤ x → nx 58 lv r w) ∧ (¬ y ≤ x → nx 22 lv r w))) := id rfl
theorem sX2_firstOutOfOrder_22 (lv : zL) (st : List Value) (w : zW) (nx K : Nat → zL → List Value → zW → Prop) (Rt : Option Value → zW → Prop) : z_st1 (tX2_firstOutOfOrder 22) 22 lv st w nx K Rt = (z_la lv 2 (fun x => nx 23 lv (.ref x :: st) w)) := id rfl
theorem sX2_firstOutOfOrder_23 (lv : zL) (st : List Value) (w : zW) (nx K : Nat → zL → List Value → zW → Prop) (Rt : Option Value → zW → Prop) : z_st1 (tX2_firstOutOfOrder 23) 23 lv st w nx K Rt = (z_la lv 1 (fun x => nx 24 lv (.ref x :: st) w)) := id rfl
theorem sX2_firstOutOfOrder_24 (lv : zL) (st : List Value) (w : zW) (nx K : Nat → zL → List Value → zW → Prop) (Rt : Option Value → zW → Prop) : z_st1 (tX2_firstOutOfOrder 24) 24 lv st w nx K Rt = (z_la lv 0 (fun x => nx 25 lv (.ref x :: st) w)) := id rfl
theorem sX2_firstOutOfOrder_25 (lv : zL) (st : List Value) (w : zW) (nx K : Nat → zL → List Value → zW → Prop) (Rt : Option Value → zW → Prop) : z_st1 (tX2_firstOutOfOrder 25) 25 lv st w nx K Rt = (z_li lv 3 (fun x => nx 26 lv (.int x :: st) w)) := id rfl
theorem sX2_firstOutOfOrder_26 (lv : zL) (st : List Value) (w : zW) (nx K : Nat → zL → List Value → zW → Prop) (Rt : Option Value → zW → Prop) : z_st1 (tX2_firstOutOfOrder 26) 26 lv st w nx K Rt = (z_li lv 4 (fun x => nx 28 lv (.int x :: st) w)) := id rfl
theorem sX2_firstOutOfOrder_28 (lv : zL) (st : List Value) (w : zW) (nx K : Nat → zL → List Value → zW → Prop) (Rt : Option Value → zW → Prop) : z_st1 (tX2_firstOutOfOrder 28) 28 lv st w nx K Rt = (nx 29 lv (.int (1 : Int32) :: st) w) := id rfl
theorem sX2_firstOutOfOrder_29 (lv : zL) (st : List Value) (w : zW) (nx K : Nat → zL → List Value → zW → Prop) (Rt : Option Value → zW → Prop) : z_st1 (tX2_firstOutOfOrder 29) 29 lv st w nx K Rt = (z_2i st (fun x y r => nx 30 lv (.int (x - y) :: r) w)) := id rfl
theorem sX2_firstOutOfOrder_33 (lv : zL) (st : List Value) (w : zW) (nx K : Nat → zL → List Value → zW → Prop) (Rt : Option Value → zW → Prop) : z_st1 (tX2_firstOutOfOrder 33) 33 lv st w nx K Rt = (nx 34 lv (.int (1 : Int32) :: st) w) := id rfl
theorem sX2_firstOutOfOrder_34 (lv : zL) (st : List Value) (w : zW) (nx K : Nat → zL → List Value → zW → Prop) (Rt : Option Value → zW → Prop) : z_st1 (tX2_firstOutOfOrder 34) 34 lv st w nx K Rt = (z_2i st (fun x y r => nx 35 lv (.int (x - y) :: r) w)) := id rfl
theorem sX2_firstOutOfOrder_35 (lv : zL) (st : List Value) (w : zW) (nx K : Nat → zL → List Value → zW → Prop) (Rt : Option Value → zW → Prop) : z_st1 (tX2_firstOutOfOrder 35) 35 lv st w nx K Rt = (z_la lv 0 (fun x => nx 36 lv (.ref x :: st) w)) := id rfl
theorem sX2_firstOutOfOrder_36 (lv : zL) (st : List Value) (w : zW) (nx K : Nat → zL → List Value → zW → Prop) (Rt : Option Value → zW → Prop) : z_st1 (tX2_firstOutOfOrder 36) 36 lv st w nx K Rt = (z_li lv 3 (fun x => nx 37 lv (.int x :: st) w)) := id rfl
theorem sX2_firstOutOfOrder_37 (lv : zL) (st : List Value) (w : zW) (nx K : Nat → zL → List Value → zW → Prop) (Rt : Option Value → zW → Prop) : z_st1 (tX2_firstOutOfOrder 37) 37 lv st w nx K Rt = (z_li lv 4 (fun x => nx 39 lv (.int x :: st) w)) := id rfl
theorem sX2_firstOutOfOrder_42 (lv : zL) (st : List Value) (w : zW) (nx K : Nat → zL → List Value → zW → Prop) (Rt : Option Value → zW → Prop) : z_st1 (tX2_firstOutOfOrder 42) 42 lv st w nx K Rt = (nx 43 lv (.int (1 : Int32) :: st) w) := id rfl
theorem sX2_firstOutOfOrder_43 (lv : zL) (st : List Value) (w : zW) (nx K : Nat → zL → List Value → zW → Prop) (Rt : Option Value → zW → Prop) : z_st1 (tX2_firstOutOfOrder 43) 43 lv st w nx K Rt = (z_2i st (fun x y r => nx 44 lv (.int (x - y) :: r) w)) := id rfl
theorem sX2_firstOutOfOrder_47 (lv : zL) (st : List Value) (w : zW) (nx K : Nat → zL → List Value → zW → Prop) (Rt : Option Value → zW → Prop) : z_st1 (tX2_firstOutOfOrder 47) 47 lv st w nx K Rt = (z_1i st (fun x r => (x ≤ 0 → nx 52 lv r w) ∧ (¬ x ≤ 0 → nx 50 lv r w))) := id rfl
theorem sX2_firstOutOfOrder_50 (lv : zL) (st : List Value) (w : zW) (nx K : Nat → zL → List Value → zW → Prop) (Rt : Option Value → zW → Prop) : z_st1 (tX2_firstOutOfOrder 50) 50 lv st w nx K Rt = (z_li lv 3 (fun x => nx 51 lv (.int x :: st) w)) := id rfl
theorem sX2_firstOutOfOrder_51 (lv : zL) (st : List Value) (w : zW) (nx K : Nat → zL → List Value → zW → Prop) (Rt : Option Value → zW → Prop) : z_st1 (tX2_firstOutOfOrder 51) 51 lv st w nx K Rt = (z_e1 st (fun x => Rt (some (.int x)) w)) := id rfl
theorem sX2_firstOutOfOrder_52 (lv : zL) (st : List Value) (w : zW) (nx K : Nat → zL → List Value → zW → Prop) (Rt : Option Value → zW → Prop) : z_st1 (tX2_firstOutOfOrder 52) 52 lv st w nx K Rt = (z_li lv 4 (fun x => z_ok1 lv 4 = true ∧ nx 55 (lv.set 4 (some (.int (x + (1 : Int32))))) st w)) := id rfl
theorem sX2_firstOutOfOrder_55 (lv : zL) (st : List Value) (w : zW) (nx K : Nat → zL → List Value → zW → Prop) (Rt : Option Value → zW → Prop) : z_st1 (tX2_firstOutOfOrder 55) 55 lv st w nx K Rt = (nx 11 lv st w) := id rfl
theorem sX2_firstOutOfOrder_58 (lv : zL) (st : List Value) (w : zW) (nx K : Nat → zL → List Value → zW → Prop) (Rt : Option Value → zW → Prop) : z_st1 (tX2_firstOutOfOrder 58) 58 lv st w nx K Rt = (z_li lv 3 (fun x => z_ok1 lv 3 = true ∧ nx 61 (lv.set 3 (some (.int (x + (1 : Int32))))) st w)) := id rfl
theorem sX2_firstOutOfOrder_61 (lv : zL) (st : List Value) (w : zW) (nx K : Nat → zL → List Value → zW → Prop) (Rt : Option Value → zW → Prop) : z_st1 (tX2_firstOutOfOrder 61) 61 lv st w nx K Rt = (nx 2 lv st w) := id rfl
theorem sX2_firstOutOfOrder_64 (lv : zL) (st : List Value) (w : zW) (nx K : Nat → zL → List Value → zW → Prop) (Rt : Option Value → zW → Prop) : z_st1 (tX2_firstOutOfOrder 64) 64 lv st w nx K Rt = (nx 65 lv (.int (-1 : Int32) :: st) w) := id rfl
theorem sX2_firstOutOfOrder_65 (lv : zL) (st : List Value) (w : zW) (nx K : Nat → zL → List Value → zW → Prop) (Rt : Option Value → zW → Prop) : z_st1 (tX2_firstOutOfOrder 65) 65 lv st w nx K Rt = (z_e1 st (fun x => Rt (some (.int x)) w)) := id rfl
theorem sX2_firstOutOfOrder_30 (lv : zL) (st : List Value) (w : zW) (nx K : Nat → zL → List Value → zW → Prop) (Rt : Option Value → zW → Prop) : z_st1 (tX2_firstOutOfOrder 30) 30 lv st w nx K Rt = K 30 lv st w := id rfl
theorem sX2_firstOutOfOrder_39 (lv : zL) (st : List Value) (w : zW) (nx K : Nat → zL → List Value → zW → Prop) (Rt : Option Value → zW → Prop) : z_st1 (tX2_firstOutOfOrder 39) 39 lv st w nx K Rt = K 39 lv st w := id rfl
theorem sX2_firstOutOfOrder_44 (lv : zL) (st : List Value) (w : zW) (nx K : Nat → zL → List Value → zW → Prop) (Rt : Option Value → zW → Prop) : z_st1 (tX2_firstOutOfOrder 44) 44 lv st w nx K Rt = K 44 lv st w := id rfl
theorem dX2_firstOutOfOrder_30 : decode cX2_firstOutOfOrder 30 = .ok (.invokevirtual 26, 3) := by decide +kernel
theorem dX2_firstOutOfOrder_39 : decode cX2_firstOutOfOrder 39 = .ok (.invokevirtual 26, 3) := by decide +kernel
theorem dX2_firstOutOfOrder_44 : decode cX2_firstOutOfOrder 44 = .ok (.invokevirtual 30, 3) := by decide +kernel

def tmX3_init (pc : Nat) : zI := match pc with
  | 0 => (1, 0, 0, 1, 0)
  | 4 => (1, 0, 0, 5, 0)
  | 5 => (6, 0, 0, 7, 8)
  | 12 => (1, 0, 0, 13, 0)
  | 13 => (6, 0, 0, 15, 8)
  | 20 => (1, 0, 0, 21, 0)
  | 21 => (6, 0, 0, 23, 8)
  | 28 => (1, 0, 0, 29, 0)
  | 29 => (6, 0, 0, 31, 8)
  | 36 => (55, 0, 0, 37, 0)
  | _ => (99, 0, 0, 0, 0)
def tX3_init (pc : Nat) : zI := if pc < 37 then tmX3_init pc else (99, 0, 0, 0, 0)
theorem tkX3_init : z_tab RX3 wsX3_init 1 none cX3_init 37 tX3_init := z_tab_of (tm := tmX3_init) (by decide +kernel)
theorem sX3_init_0 (lv : zL) (st : List Value) (w : zW) (nx K : Nat → zL → List Value → zW → Prop) (Rt : Option Value → zW → Prop) : z_st1 (tX3_init 0) 0 lv st w nx K Rt = (z_la lv 0 (fun x => nx 1 lv (.ref x :: st) w)) := id rfl
theorem sX3_init_4 (lv : zL) (st : List Value) (w : zW) (nx K : Nat → zL → List Value → zW → Prop) (Rt : Option Value → zW → Prop) : z_st1 (tX3_init 4) 4 lv st w nx K Rt = (z_la lv 0 (fun x => nx 5 lv (.ref x :: st) w)) := id rfl
theorem sX3_init_5 (lv : zL) (st : List Value) (w : zW) (nx K : Nat → zL → List Value → zW → Prop) (Rt : Option Value → zW → Prop) : z_st1 (tX3_init 5) 5 lv st w nx K Rt = (nx 7 lv (.int (8 : Int32) :: st) w) := id rfl
theorem sX3_init_12 (lv : zL) (st : List Value) (w : zW) (nx K : Nat → zL → List Value → zW → Prop) (Rt : Option Value → zW → Prop) : z_st1 (tX3_init 12) 12 lv st w nx K Rt = (z_la lv 0 (fun x => nx 13 lv (.ref x :: st) w)) := id rfl
theorem sX3_init_13 (lv : zL) (st : List Value) (w : zW) (nx K : Nat → zL → List Value → zW → Prop) (Rt : Option Value → zW → Prop) : z_st1 (tX3_init 13) 13 lv st w nx K Rt = (nx 15 lv (.int (8 : Int32) :: st) w) := id rfl
theorem sX3_init_20 (lv : zL) (st : List Value) (w : zW) (nx K : Nat → zL → List Value → zW → Prop) (Rt : Option Value → zW → Prop) : z_st1 (tX3_init 20) 20 lv st w nx K Rt = (z_la lv 0 (fun x => nx 21 lv (.ref x :: st) w)) := id rfl
theorem sX3_init_21 (lv : zL) (st : List Value) (w : zW) (nx K : Nat → zL → List Value → zW → Prop) (Rt : Option Value → zW → Prop) : z_st1 (tX3_init 21) 21 lv st w nx K Rt = (nx 23 lv (.int (8 : Int32) :: st) w) := id rfl
theorem sX3_init_28 (lv : zL) (st : List Value) (w : zW) (nx K : Nat → zL → List Value → zW → Prop) (Rt : Option Value → zW → Prop) : z_st1 (tX3_init 28) 28 lv st w nx K Rt = (z_la lv 0 (fun x => nx 29 lv (.ref x :: st) w)) := id rfl
theorem sX3_init_29 (lv : zL) (st : List Value) (w : zW) (nx K : Nat → zL → List Value → zW → Prop) (Rt : Option Value → zW → Prop) : z_st1 (tX3_init 29) 29 lv st w nx K Rt = (nx 31 lv (.int (8 : Int32) :: st) w) := id rfl
theorem sX3_init_36 (lv : zL) (st : List Value) (w : zW) (nx K : Nat → zL → List Value → zW → Prop) (Rt : Option Value → zW → Prop) : z_st1 (tX3_init 36) 36 lv st w nx K Rt = (z_e0 st (Rt none w)) := id rfl
theorem sX3_init_1 (lv : zL) (st : List Value) (w : zW) (nx K : Nat → zL → List Value → zW → Prop) (Rt : Option Value → zW → Prop) : z_st1 (tX3_init 1) 1 lv st w nx K Rt = K 1 lv st w := id rfl
theorem sX3_init_7 (lv : zL) (st : List Value) (w : zW) (nx K : Nat → zL → List Value → zW → Prop) (Rt : Option Value → zW → Prop) : z_st1 (tX3_init 7) 7 lv st w nx K Rt = K 7 lv st w := id rfl
theorem sX3_init_9 (lv : zL) (st : List Value) (w : zW) (nx K : Nat → zL → List Value → zW → Prop) (Rt : Option Value → zW → Prop) : z_st1 (tX3_init 9) 9 lv st w nx K Rt = K 9 lv st w := id rfl
theorem sX3_init_15 (lv : zL) (st : List Value) (w : zW) (nx K : Nat → zL → List Value → zW → Prop) (Rt : Option Value → zW → Prop) : z_st1 (tX3_init 15) 15 lv st w nx K Rt = K 15 lv st w := id rfl
theorem sX3_init_17 (lv : zL) (st : List Value) (w : zW) (nx K : Nat → zL → List Value → zW → Prop) (Rt : Option Value → zW → Prop) : z_st1 (tX3_init 17) 17 lv st w nx K Rt = K 17 lv st w := id rfl
theorem sX3_init_23 (lv : zL) (st : List Value) (w : zW) (nx K : Nat → zL → List Value → zW → Prop) (Rt : Option Value → zW → Prop) : z_st1 (tX3_init 23) 23 lv st w nx K Rt = K 23 lv st w := id rfl
theorem sX3_init_25 (lv : zL) (st : List Value) (w : zW) (nx K : Nat → zL → List Value → zW → Prop) (Rt : Option Value → zW → Prop) : z_st1 (tX3_init 25) 25 lv st w nx K Rt = K 25 lv st w := id rfl
theorem sX3_init_31 (lv : zL) (st : List Value) (w : zW) (nx K : Nat → zL → List Value → zW → Prop) (Rt : Option Value → zW → Prop) : z_st1 (tX3_init 31) 31 lv st w nx K Rt = K 31 lv st w := id rfl
theorem sX3_init_33 (lv : zL) (st : List Value) (w : zW) (nx K : Nat → zL → List Value → zW → Prop) (Rt : Option Value → zW → Prop) : z_st1 (tX3_init 33) 33 lv st w nx K Rt = K 33 lv st w := id rfl
theorem dX3_init_1 : decode cX3_init 1 = .ok (.invokespecial 3, 3) := by decide +kernel
theorem dX3_init_7 : decode cX3_init 7 = .ok (.newarray .int, 2) := by decide +kernel
theorem dX3_init_9 : decode cX3_init 9 = .ok (.putfield 9, 3) := by decide +kernel
theorem dX3_init_15 : decode cX3_init 15 = .ok (.newarray .int, 2) := by decide +kernel
theorem dX3_init_17 : decode cX3_init 17 = .ok (.putfield 15, 3) := by decide +kernel
theorem dX3_init_23 : decode cX3_init 23 = .ok (.newarray .int, 2) := by decide +kernel
theorem dX3_init_25 : decode cX3_init 25 = .ok (.putfield 18, 3) := by decide +kernel
theorem dX3_init_31 : decode cX3_init 31 = .ok (.newarray .boolean, 2) := by decide +kernel
theorem dX3_init_33 : decode cX3_init 33 = .ok (.putfield 21, 3) := by decide +kernel

def tmX3_allows (pc : Nat) : zI := match pc with
  | 0 => (0, 2, 0, 1, 0)
  | 1 => (36, 29, 0, 4, 0)
  | 4 => (0, 2, 0, 5, 0)
  | 8 => (52, 0, 0, 9, 0)
  | 9 => (43, 29, 0, 12, 0)
  | 12 => (0, 0, 0, 13, 0)
  | 13 => (0, 1, 0, 14, 0)
  | 17 => (0, 2, 0, 18, 0)
  | 18 => (48, 0, 0, 19, 0)
  | 22 => (34, 29, 0, 25, 0)
  | 25 => (6, 0, 0, 26, 1)
  | 26 => (33, 30, 0, 29, 0)
  | 29 => (6, 0, 0, 30, 0)
  | 30 => (58, 0, 0, 31, 0)
  | _ => (99, 0, 0, 0, 0)
def tX3_allows (pc : Nat) : zI := if pc < 31 then tmX3_allows pc else (99, 0, 0, 0, 0)
theorem tkX3_allows : z_tab RX3 wsX3_allows 3 (some .boolean) cX3_allows 31 tX3_allows := z_tab_of (tm := tmX3_allows) (by decide +kernel)
theorem sX3_allows_0 (lv : zL) (st : List Value) (w : zW) (nx K : Nat → zL → List Value → zW → Prop) (Rt : Option Value → zW → Prop) : z_st1 (tX3_allows 0) 0 lv st w nx K Rt = (z_li lv 2 (fun x => nx 1 lv (.int x :: st) w)) := id rfl
theorem sX3_allows_1 (lv : zL) (st : List Value) (w : zW) (nx K : Nat → zL → List Value → zW → Prop) (Rt : Option Value → zW → Prop) : z_st1 (tX3_allows 1) 1 lv st w nx K Rt = (z_1i st (fun x r => (x < 0 → nx 29 lv r w) ∧ (¬ x < 0 → nx 4 lv r w))) := id rfl
theorem sX3_allows_4 (lv : zL) (st : List Value) (w : zW) (nx K : Nat → zL → List Value → zW → Prop) (Rt : Option Value → zW → Prop) : z_st1 (tX3_allows 4) 4 lv st w nx K Rt = (z_li lv 2 (fun x => nx 5 lv (.int x :: st) w)) := id rfl
theorem sX3_allows_8 (lv : zL) (st : List Value) (w : zW) (nx K : Nat → zL → List Value → zW → Prop) (Rt : Option Value → zW → Prop) : z_st1 (tX3_allows 8) 8 lv st w nx K Rt = (z_1a st (fun x r => z_ar0 w x (fun m _ => nx 9 lv (.int (Int32.ofNat m) :: r) w))) := id rfl
theorem sX3_allows_9 (lv : zL) (st : List Value) (w : zW) (nx K : Nat → zL → List Value → zW → Prop) (Rt : Option Value → zW → Prop) : z_st1 (tX3_allows 9) 9 lv st w nx K Rt = (z_2i st (fun x y r => (y ≤ x → nx 29 lv r w) ∧ (¬ y ≤ x → nx 12 lv r w))) := id rfl
theorem sX3_allows_12 (lv : zL) (st : List Value) (w : zW) (nx K : Nat → zL → List Value → zW → Prop) (Rt : Option Value → zW → Prop) : z_st1 (tX3_allows 12) 12 lv st w nx K Rt = (z_li lv 0 (fun x => nx 13 lv (.int x :: st) w)) := id rfl
theorem sX3_allows_13 (lv : zL) (st : List Value) (w : zW) (nx K : Nat → zL → List Value → zW → Prop) (Rt : Option Value → zW → Prop) : z_st1 (tX3_allows 13) 13 lv st w nx K Rt = (z_li lv 1 (fun x => nx 14 lv (.int x :: st) w)) := id rfl
theorem sX3_allows_17 (lv : zL) (st : List Value) (w : zW) (nx K : Nat → zL → List Value → zW → Prop) (Rt : Option Value → zW → Prop) : z_st1 (tX3_allows 17) 17 lv st w nx K Rt = (z_li lv 2 (fun x => nx 18 lv (.int x :: st) w)) := id rfl
theorem sX3_allows_18 (lv : zL) (st : List Value) (w : zW) (nx K : Nat → zL → List Value → zW → Prop) (Rt : Option Value → zW → Prop) : z_st1 (tX3_allows 18) 18 lv st w nx K Rt = (z_ia st (fun x i r => z_ar0 w x (fun m g => vp_in i m ∧ nx 19 lv (.int (g i.toNatClampNeg) :: r) w))) := id rfl
theorem sX3_allows_22 (lv : zL) (st : List Value) (w : zW) (nx K : Nat → zL → List Value → zW → Prop) (Rt : Option Value → zW → Prop) : z_st1 (tX3_allows 22) 22 lv st w nx K Rt = (z_1i st (fun x r => (x = 0 → nx 29 lv r w) ∧ (¬ x = 0 → nx 25 lv r w))) := id rfl
theorem sX3_allows_25 (lv : zL) (st : List Value) (w : zW) (nx K : Nat → zL → List Value → zW → Prop) (Rt : Option Value → zW → Prop) : z_st1 (tX3_allows 25) 25 lv st w nx K Rt = (nx 26 lv (.int (1 : Int32) :: st) w) := id rfl
theorem sX3_allows_26 (lv : zL) (st : List Value) (w : zW) (nx K : Nat → zL → List Value → zW → Prop) (Rt : Option Value → zW → Prop) : z_st1 (tX3_allows 26) 26 lv st w nx K Rt = (nx 30 lv st w) := id rfl
theorem sX3_allows_29 (lv : zL) (st : List Value) (w : zW) (nx K : Nat → zL → List Value → zW → Prop) (Rt : Option Value → zW → Prop) : z_st1 (tX3_allows 29) 29 lv st w nx K Rt = (nx 30 lv (.int (0 : Int32) :: st) w) := id rfl
theorem sX3_allows_30 (lv : zL) (st : List Value) (w : zW) (nx K : Nat → zL → List Value → zW → Prop) (Rt : Option Value → zW → Prop) : z_st1 (tX3_allows 30) 30 lv st w nx K Rt = (z_e1 st (fun x => (x = 0 ∨ x = 1) ∧ Rt (some (.int x)) w)) := id rfl
theorem sX3_allows_5 (lv : zL) (st : List Value) (w : zW) (nx K : Nat → zL → List Value → zW → Prop) (Rt : Option Value → zW → Prop) : z_st1 (tX3_allows 5) 5 lv st w nx K Rt = K 5 lv st w := id rfl
theorem sX3_allows_14 (lv : zL) (st : List Value) (w : zW) (nx K : Nat → zL → List Value → zW → Prop) (Rt : Option Value → zW → Prop) : z_st1 (tX3_allows 14) 14 lv st w nx K Rt = K 14 lv st w := id rfl
theorem sX3_allows_19 (lv : zL) (st : List Value) (w : zW) (nx K : Nat → zL → List Value → zW → Prop) (Rt : Option Value → zW → Prop) : z_st1 (tX3_allows 19) 19 lv st w nx K Rt = K 19 lv st w := id rfl
theorem dX3_allows_5 : decode cX3_allows 5 = .ok (.getstatic 25, 3) := by decide +kernel
theorem dX3_allows_14 : decode cX3_allows 14 = .ok (.getstatic 25, 3) := by decide +kernel
theorem dX3_allows_19 : decode cX3_allows 19 = .ok (.invokestatic 28, 3) := by decide +kernel

def tmX3_told (pc : Nat) : zI := match pc with
  | 0 => (1, 0, 0, 1, 0)
  | 1 => (46, 4, 4, 4, 0)
  | 4 => (53, 0, 0, 5, 0)
  | _ => (99, 0, 0, 0, 0)
def tX3_told (pc : Nat) : zI := if pc < 5 then tmX3_told pc else (99, 0, 0, 0, 0)
theorem tkX3_told : z_tab RX3 wsX3_told 1 (some .int) cX3_told 5 tX3_told := z_tab_of (tm := tmX3_told) (by decide +kernel)
theorem sX3_told_0 (lv : zL) (st : List Value) (w : zW) (nx K : Nat → zL → List Value → zW → Prop) (Rt : Option Value → zW → Prop) : z_st1 (tX3_told 0) 0 lv st w nx K Rt = (z_la lv 0 (fun x => nx 1 lv (.ref x :: st) w)) := id rfl
theorem sX3_told_1 (lv : zL) (st : List Value) (w : zW) (nx K : Nat → zL → List Value → zW → Prop) (Rt : Option Value → zW → Prop) : z_st1 (tX3_told 1) 1 lv st w nx K Rt = (z_1a st (fun x r => z_ob w x 4 (fun fs => z_fl fs 4 (fun u => nx 4 lv (u :: r) w)))) := id rfl
theorem sX3_told_4 (lv : zL) (st : List Value) (w : zW) (nx K : Nat → zL → List Value → zW → Prop) (Rt : Option Value → zW → Prop) : z_st1 (tX3_told 4) 4 lv st w nx K Rt = (z_e1 st (fun x => Rt (some (.int x)) w)) := id rfl

def tmX3_tell (pc : Nat) : zI := match pc with
  | 0 => (1, 0, 0, 1, 0)
  | 1 => (46, 4, 4, 4, 0)
  | 4 => (6, 0, 0, 6, 8)
  | 6 => (42, 11, 0, 9, 0)
  | 9 => (6, 0, 0, 10, (-1))
  | 10 => (53, 0, 0, 11, 0)
  | 11 => (1, 0, 0, 12, 0)
  | 12 => (46, 4, 0, 15, 0)
  | 15 => (1, 0, 0, 16, 0)
  | 16 => (46, 4, 4, 19, 0)
  | 19 => (0, 1, 0, 20, 0)
  | 20 => (49, 0, 0, 21, 0)
  | 21 => (1, 0, 0, 22, 0)
  | 22 => (46, 4, 1, 25, 0)
  | 25 => (1, 0, 0, 26, 0)
  | 26 => (46, 4, 4, 29, 0)
  | 29 => (0, 2, 0, 30, 0)
  | 30 => (49, 0, 0, 31, 0)
  | 31 => (1, 0, 0, 32, 0)
  | 32 => (46, 4, 2, 35, 0)
  | 35 => (1, 0, 0, 36, 0)
  | 36 => (46, 4, 4, 39, 0)
  | 39 => (0, 3, 0, 40, 0)
  | 40 => (49, 0, 0, 41, 0)
  | 41 => (1, 0, 0, 42, 0)
  | 42 => (46, 4, 3, 45, 0)
  | 45 => (1, 0, 0, 46, 0)
  | 46 => (46, 4, 4, 49, 0)
  | 49 => (0, 4, 0, 51, 0)
  | 51 => (51, 0, 0, 52, 0)
  | 52 => (1, 0, 0, 53, 0)
  | 53 => (29, 0, 0, 54, 0)
  | 54 => (46, 4, 4, 57, 0)
  | 57 => (6, 0, 0, 58, 1)
  | 58 => (8, 0, 0, 59, 0)
  | 59 => (47, 4, 4, 62, 0)
  | 62 => (1, 0, 0, 63, 0)
  | 63 => (46, 4, 4, 66, 0)
  | 66 => (53, 0, 0, 67, 0)
  | _ => (99, 0, 0, 0, 0)
def tX3_tell (pc : Nat) : zI := if pc < 67 then tmX3_tell pc else (99, 0, 0, 0, 0)
theorem tkX3_tell : z_tab RX3 wsX3_tell 5 (some .int) cX3_tell 67 tX3_tell := z_tab_of (tm := tmX3_tell) (by decide +kernel)
theorem sX3_tell_0 (lv : zL) (st : List Value) (w : zW) (nx K : Nat → zL → List Value → zW → Prop) (Rt : Option Value → zW → Prop) : z_st1 (tX3_tell 0) 0 lv st w nx K Rt = (z_la lv 0 (fun x => nx 1 lv (.ref x :: st) w)) := id rfl
theorem sX3_tell_1 (lv : zL) (st : List Value) (w : zW) (nx K : Nat → zL → List Value → zW → Prop) (Rt : Option Value → zW → Prop) : z_st1 (tX3_tell 1) 1 lv st w nx K Rt = (z_1a st (fun x r => z_ob w x 4 (fun fs => z_fl fs 4 (fun u => nx 4 lv (u :: r) w)))) := id rfl
theorem sX3_tell_4 (lv : zL) (st : List Value) (w : zW) (nx K : Nat → zL → List Value → zW → Prop) (Rt : Option Value → zW → Prop) : z_st1 (tX3_tell 4) 4 lv st w nx K Rt = (nx 6 lv (.int (8 : Int32) :: st) w) := id rfl
theorem sX3_tell_6 (lv : zL) (st : List Value) (w : zW) (nx K : Nat → zL → List Value → zW → Prop) (Rt : Option Value → zW → Prop) : z_st1 (tX3_tell 6) 6 lv st w nx K Rt = (z_2i st (fun x y r => (x < y → nx 11 lv r w) ∧ (¬ x < y → nx 9 lv r w))) := id rfl
theorem sX3_tell_9 (lv : zL) (st : List Value) (w : zW) (nx K : Nat → zL → List Value → zW → Prop) (Rt : Option Value → zW → Prop) : z_st1 (tX3_tell 9) 9 lv st w nx K Rt = (nx 10 lv (.int (-1 : Int32) :: st) w) := id rfl
theorem sX3_tell_10 (lv : zL) (st : List Value) (w : zW) (nx K : Nat → zL → List Value → zW → Prop) (Rt : Option Value → zW → Prop) : z_st1 (tX3_tell 10) 10 lv st w nx K Rt = (z_e1 st (fun x => Rt (some (.int x)) w)) := id rfl
theorem sX3_tell_11 (lv : zL) (st : List Value) (w : zW) (nx K : Nat → zL → List Value → zW → Prop) (Rt : Option Value → zW → Prop) : z_st1 (tX3_tell 11) 11 lv st w nx K Rt = (z_la lv 0 (fun x => nx 12 lv (.ref x :: st) w)) := id rfl
theorem sX3_tell_12 (lv : zL) (st : List Value) (w : zW) (nx K : Nat → zL → List Value → zW → Prop) (Rt : Option Value → zW → Prop) : z_st1 (tX3_tell 12) 12 lv st w nx K Rt = (z_1a st (fun x r => z_ob w x 4 (fun fs => z_fl fs 0 (fun u => nx 15 lv (u :: r) w)))) := id rfl
theorem sX3_tell_15 (lv : zL) (st : List Value) (w : zW) (nx K : Nat → zL → List Value → zW → Prop) (Rt : Option Value → zW → Prop) : z_st1 (tX3_tell 15) 15 lv st w nx K Rt = (z_la lv 0 (fun x => nx 16 lv (.ref x :: st) w)) := id rfl
theorem sX3_tell_16 (lv : zL) (st : List Value) (w : zW) (nx K : Nat → zL → List Value → zW → Prop) (Rt : Option Value → zW → Prop) : z_st1 (tX3_tell 16) 16 lv st w nx K Rt = (z_1a st (fun x r => z_ob w x 4 (fun fs => z_fl fs 4 (fun u => nx 19 lv (u :: r) w)))) := id rfl
theorem sX3_tell_19 (lv : zL) (st : List Value) (w : zW) (nx K : Nat → zL → List Value → zW → Prop) (Rt : Option Value → zW → Prop) : z_st1 (tX3_tell 19) 19 lv st w nx K Rt = (z_li lv 1 (fun x => nx 20 lv (.int x :: st) w)) := id rfl
theorem sX3_tell_20 (lv : zL) (st : List Value) (w : zW) (nx K : Nat → zL → List Value → zW → Prop) (Rt : Option Value → zW → Prop) : z_st1 (tX3_tell 20) 20 lv st w nx K Rt = (z_iia st (fun x i u r => z_ar0 w x (fun m g => vp_in i m ∧ nx 21 lv r (z_up w x (.inl (0, m, .inl (upd g i.toNatClampNeg u))))))) := id rfl
theorem sX3_tell_21 (lv : zL) (st : List Value) (w : zW) (nx K : Nat → zL → List Value → zW → Prop) (Rt : Option Value → zW → Prop) : z_st1 (tX3_tell 21) 21 lv st w nx K Rt = (z_la lv 0 (fun x => nx 22 lv (.ref x :: st) w)) := id rfl
theorem sX3_tell_22 (lv : zL) (st : List Value) (w : zW) (nx K : Nat → zL → List Value → zW → Prop) (Rt : Option Value → zW → Prop) : z_st1 (tX3_tell 22) 22 lv st w nx K Rt = (z_1a st (fun x r => z_ob w x 4 (fun fs => z_fl fs 1 (fun u => nx 25 lv (u :: r) w)))) := id rfl
theorem sX3_tell_25 (lv : zL) (st : List Value) (w : zW) (nx K : Nat → zL → List Value → zW → Prop) (Rt : Option Value → zW → Prop) : z_st1 (tX3_tell 25) 25 lv st w nx K Rt = (z_la lv 0 (fun x => nx 26 lv (.ref x :: st) w)) := id rfl
theorem sX3_tell_26 (lv : zL) (st : List Value) (w : zW) (nx K : Nat → zL → List Value → zW → Prop) (Rt : Option Value → zW → Prop) : z_st1 (tX3_tell 26) 26 lv st w nx K Rt = (z_1a st (fun x r => z_ob w x 4 (fun fs => z_fl fs 4 (fun u => nx 29 lv (u :: r) w)))) := id rfl
theorem sX3_tell_29 (lv : zL) (st : List Value) (w : zW) (nx K : Nat → zL → List Value → zW → Prop) (Rt : Option Value → zW → Prop) : z_st1 (tX3_tell 29) 29 lv st w nx K Rt = (z_li lv 2 (fun x => nx 30 lv (.int x :: st) w)) := id rfl
theorem sX3_tell_30 (lv : zL) (st : List Value) (w : zW) (nx K : Nat → zL → List Value → zW → Prop) (Rt : Option Value → zW → Prop) : z_st1 (tX3_tell 30) 30 lv st w nx K Rt = (z_iia st (fun x i u r => z_ar0 w x (fun m g => vp_in i m ∧ nx 31 lv r (z_up w x (.inl (0, m, .inl (upd g i.toNatClampNeg u))))))) := id rfl
theorem sX3_tell_31 (lv : zL) (st : List Value) (w : zW) (nx K : Nat → zL → List Value → zW → Prop) (Rt : Option Value → zW → Prop) : z_st1 (tX3_tell 31) 31 lv st w nx K Rt = (z_la lv 0 (fun x => nx 32 lv (.ref x :: st) w)) := id rfl
theorem sX3_tell_32 (lv : zL) (st : List Value) (w : zW) (nx K : Nat → zL → List Value → zW → Prop) (Rt : Option Value → zW → Prop) : z_st1 (tX3_tell 32) 32 lv st w nx K Rt = (z_1a st (fun x r => z_ob w x 4 (fun fs => z_fl fs 2 (fun u => nx 35 lv (u :: r) w)))) := id rfl
theorem sX3_tell_35 (lv : zL) (st : List Value) (w : zW) (nx K : Nat → zL → List Value → zW → Prop) (Rt : Option Value → zW → Prop) : z_st1 (tX3_tell 35) 35 lv st w nx K Rt = (z_la lv 0 (fun x => nx 36 lv (.ref x :: st) w)) := id rfl
theorem sX3_tell_36 (lv : zL) (st : List Value) (w : zW) (nx K : Nat → zL → List Value → zW → Prop) (Rt : Option Value → zW → Prop) : z_st1 (tX3_tell 36) 36 lv st w nx K Rt = (z_1a st (fun x r => z_ob w x 4 (fun fs => z_fl fs 4 (fun u => nx 39 lv (u :: r) w)))) := id rfl
theorem sX3_tell_39 (lv : zL) (st : List Value) (w : zW) (nx K : Nat → zL → List Value → zW → Prop) (Rt : Option Value → zW → Prop) : z_st1 (tX3_tell 39) 39 lv st w nx K Rt = (z_li lv 3 (fun x => nx 40 lv (.int x :: st) w)) := id rfl
theorem sX3_tell_40 (lv : zL) (st : List Value) (w : zW) (nx K : Nat → zL → List Value → zW → Prop) (Rt : Option Value → zW → Prop) : z_st1 (tX3_tell 40) 40 lv st w nx K Rt = (z_iia st (fun x i u r => z_ar0 w x (fun m g => vp_in i m ∧ nx 41 lv r (z_up w x (.inl (0, m, .inl (upd g i.toNatClampNeg u))))))) := id rfl
theorem sX3_tell_41 (lv : zL) (st : List Value) (w : zW) (nx K : Nat → zL → List Value → zW → Prop) (Rt : Option Value → zW → Prop) : z_st1 (tX3_tell 41) 41 lv st w nx K Rt = (z_la lv 0 (fun x => nx 42 lv (.ref x :: st) w)) := id rfl
theorem sX3_tell_42 (lv : zL) (st : List Value) (w : zW) (nx K : Nat → zL → List Value → zW → Prop) (Rt : Option Value → zW → Prop) : z_st1 (tX3_tell 42) 42 lv st w nx K Rt = (z_1a st (fun x r => z_ob w x 4 (fun fs => z_fl fs 3 (fun u => nx 45 lv (u :: r) w)))) := id rfl
theorem sX3_tell_45 (lv : zL) (st : List Value) (w : zW) (nx K : Nat → zL → List Value → zW → Prop) (Rt : Option Value → zW → Prop) : z_st1 (tX3_tell 45) 45 lv st w nx K Rt = (z_la lv 0 (fun x => nx 46 lv (.ref x :: st) w)) := id rfl
theorem sX3_tell_46 (lv : zL) (st : List Value) (w : zW) (nx K : Nat → zL → List Value → zW → Prop) (Rt : Option Value → zW → Prop) : z_st1 (tX3_tell 46) 46 lv st w nx K Rt = (z_1a st (fun x r => z_ob w x 4 (fun fs => z_fl fs 4 (fun u => nx 49 lv (u :: r) w)))) := id rfl
theorem sX3_tell_49 (lv : zL) (st : List Value) (w : zW) (nx K : Nat → zL → List Value → zW → Prop) (Rt : Option Value → zW → Prop) : z_st1 (tX3_tell 49) 49 lv st w nx K Rt = (z_li lv 4 (fun x => nx 51 lv (.int x :: st) w)) := id rfl
theorem sX3_tell_51 (lv : zL) (st : List Value) (w : zW) (nx K : Nat → zL → List Value → zW → Prop) (Rt : Option Value → zW → Prop) : z_st1 (tX3_tell 51) 51 lv st w nx K Rt = (z_iia st (fun x i u r => z_ar1 w x (fun m g => vp_in i m ∧ nx 52 lv r (z_up w x (.inl (1, m, .inl (upd g i.toNatClampNeg (vp_nar .boolean u)))))))) := id rfl
theorem sX3_tell_52 (lv : zL) (st : List Value) (w : zW) (nx K : Nat → zL → List Value → zW → Prop) (Rt : Option Value → zW → Prop) : z_st1 (tX3_tell 52) 52 lv st w nx K Rt = (z_la lv 0 (fun x => nx 53 lv (.ref x :: st) w)) := id rfl
theorem sX3_tell_53 (lv : zL) (st : List Value) (w : zW) (nx K : Nat → zL → List Value → zW → Prop) (Rt : Option Value → zW → Prop) : z_st1 (tX3_tell 53) 53 lv st w nx K Rt = (z_d1 st (fun x r => nx 54 lv (x :: x :: r) w)) := id rfl
theorem sX3_tell_54 (lv : zL) (st : List Value) (w : zW) (nx K : Nat → zL → List Value → zW → Prop) (Rt : Option Value → zW → Prop) : z_st1 (tX3_tell 54) 54 lv st w nx K Rt = (z_1a st (fun x r => z_ob w x 4 (fun fs => z_fl fs 4 (fun u => nx 57 lv (u :: r) w)))) := id rfl
theorem sX3_tell_57 (lv : zL) (st : List Value) (w : zW) (nx K : Nat → zL → List Value → zW → Prop) (Rt : Option Value → zW → Prop) : z_st1 (tX3_tell 57) 57 lv st w nx K Rt = (nx 58 lv (.int (1 : Int32) :: st) w) := id rfl
theorem sX3_tell_58 (lv : zL) (st : List Value) (w : zW) (nx K : Nat → zL → List Value → zW → Prop) (Rt : Option Value → zW → Prop) : z_st1 (tX3_tell 58) 58 lv st w nx K Rt = (z_2i st (fun x y r => nx 59 lv (.int (x + y) :: r) w)) := id rfl
theorem sX3_tell_59 (lv : zL) (st : List Value) (w : zW) (nx K : Nat → zL → List Value → zW → Prop) (Rt : Option Value → zW → Prop) : z_st1 (tX3_tell 59) 59 lv st w nx K Rt = (z_ia st (fun x i r => z_ob w x 4 (fun fs => 4 < fs.length ∧ nx 62 lv r (z_up w x (.inr (4, fs.set 4 (.int i))))))) := id rfl
theorem sX3_tell_62 (lv : zL) (st : List Value) (w : zW) (nx K : Nat → zL → List Value → zW → Prop) (Rt : Option Value → zW → Prop) : z_st1 (tX3_tell 62) 62 lv st w nx K Rt = (z_la lv 0 (fun x => nx 63 lv (.ref x :: st) w)) := id rfl
theorem sX3_tell_63 (lv : zL) (st : List Value) (w : zW) (nx K : Nat → zL → List Value → zW → Prop) (Rt : Option Value → zW → Prop) : z_st1 (tX3_tell 63) 63 lv st w nx K Rt = (z_1a st (fun x r => z_ob w x 4 (fun fs => z_fl fs 4 (fun u => nx 66 lv (u :: r) w)))) := id rfl
theorem sX3_tell_66 (lv : zL) (st : List Value) (w : zW) (nx K : Nat → zL → List Value → zW → Prop) (Rt : Option Value → zW → Prop) : z_st1 (tX3_tell 66) 66 lv st w nx K Rt = (z_e1 st (fun x => Rt (some (.int x)) w)) := id rfl

def tmX3_order (pc : Nat) : zI := match pc with
  | 0 => (6, 0, 0, 1, 0)
  | 1 => (3, 4, 0, 3, 0)
  | 3 => (0, 4, 0, 5, 0)
  | 5 => (1, 0, 0, 6, 0)
  | 6 => (46, 4, 4, 9, 0)
  | 9 => (43, 149, 0, 12, 0)
  | 12 => (1, 0, 0, 13, 0)
  | 13 => (46, 4, 0, 16, 0)
  | 16 => (0, 4, 0, 18, 0)
  | 18 => (48, 0, 0, 19, 0)
  | 19 => (3, 5, 0, 21, 0)
  | 21 => (0, 5, 0, 23, 0)
  | 23 => (1, 0, 0, 24, 0)
  | 24 => (46, 4, 1, 27, 0)
  | 27 => (0, 4, 0, 29, 0)
  | 29 => (48, 0, 0, 30, 0)
  | 30 => (8, 0, 0, 31, 0)
  | 31 => (3, 6, 0, 33, 0)
  | 33 => (1, 0, 0, 34, 0)
  | 34 => (46, 4, 2, 37, 0)
  | 37 => (0, 4, 0, 39, 0)
  | 39 => (48, 0, 0, 40, 0)
  | 40 => (6, 0, 0, 41, 2)
  | 41 => (41, 70, 0, 44, 0)
  | 44 => (1, 1, 0, 45, 0)
  | 45 => (0, 2, 0, 46, 0)
  | 46 => (0, 5, 0, 48, 0)
  | 48 => (0, 6, 0, 50, 0)
  | 53 => (1, 1, 0, 54, 0)
  | 54 => (0, 3, 0, 55, 0)
  | 55 => (0, 5, 0, 57, 0)
  | 57 => (0, 6, 0, 59, 0)
  | 65 => (3, 7, 0, 67, 0)
  | 67 => (33, 119, 0, 70, 0)
  | 70 => (1, 0, 0, 71, 0)
  | 71 => (46, 4, 2, 74, 0)
  | 74 => (0, 4, 0, 76, 0)
  | 76 => (48, 0, 0, 77, 0)
  | 77 => (6, 0, 0, 78, 3)
  | 78 => (41, 107, 0, 81, 0)
  | 81 => (1, 1, 0, 82, 0)
  | 82 => (0, 2, 0, 83, 0)
  | 83 => (0, 5, 0, 85, 0)
  | 85 => (0, 6, 0, 87, 0)
  | 90 => (1, 1, 0, 91, 0)
  | 91 => (0, 3, 0, 92, 0)
  | 92 => (0, 5, 0, 94, 0)
  | 94 => (0, 6, 0, 96, 0)
  | 102 => (3, 7, 0, 104, 0)
  | 104 => (33, 119, 0, 107, 0)
  | 107 => (1, 1, 0, 108, 0)
  | 108 => (0, 2, 0, 109, 0)
  | 109 => (0, 3, 0, 110, 0)
  | 110 => (0, 5, 0, 112, 0)
  | 112 => (0, 6, 0, 114, 0)
  | 117 => (3, 7, 0, 119, 0)
  | 119 => (0, 7, 0, 121, 0)
  | 121 => (34, 143, 0, 124, 0)
  | 124 => (1, 0, 0, 125, 0)
  | 125 => (46, 4, 3, 128, 0)
  | 128 => (0, 4, 0, 130, 0)
  | 130 => (50, 0, 0, 131, 0)
  | 131 => (34, 140, 0, 134, 0)
  | 134 => (0, 7, 0, 136, 0)
  | 136 => (14, 0, 0, 137, 0)
  | 137 => (33, 142, 0, 140, 0)
  | 140 => (0, 7, 0, 142, 0)
  | 142 => (53, 0, 0, 143, 0)
  | 143 => (7, 4, 0, 146, 1)
  | 146 => (33, 3, 0, 149, 0)
  | 149 => (6, 0, 0, 150, 0)
  | 150 => (53, 0, 0, 151, 0)
  | _ => (99, 0, 0, 0, 0)
def tX3_order (pc : Nat) : zI := if pc < 151 then tmX3_order pc else (99, 0, 0, 0, 0)
theorem tkX3_order : z_tab RX3 wsX3_order 8 (some .int) cX3_order 151 tX3_order := z_tab_of (tm := tmX3_order) (by decide +kernel)
theorem sX3_order_0 (lv : zL) (st : List Value) (w : zW) (nx K : Nat → zL → List Value → zW → Prop) (Rt : Option Value → zW → Prop) : z_st1 (tX3_order 0) 0 lv st w nx K Rt = (nx 1 lv (.int (0 : Int32) :: st) w) := id rfl
theorem sX3_order_1 (lv : zL) (st : List Value) (w : zW) (nx K : Nat → zL → List Value → zW → Prop) (Rt : Option Value → zW → Prop) : z_st1 (tX3_order 1) 1 lv st w nx K Rt = (z_1i st (fun x r => z_ok1 lv 4 = true ∧ nx 3 (lv.set 4 (some (.int x))) r w)) := id rfl
theorem sX3_order_3 (lv : zL) (st : List Value) (w : zW) (nx K : Nat → zL → List Value → zW → Prop) (Rt : Option Value → zW → Prop) : z_st1 (tX3_order 3) 3 lv st w nx K Rt = (z_li lv 4 (fun x => nx 5 lv (.int x :: st) w)) := id rfl
theorem sX3_order_5 (lv : zL) (st : List Value) (w : zW) (nx K : Nat → zL → List Value → zW → Prop) (Rt : Option Value → zW → Prop) : z_st1 (tX3_order 5) 5 lv st w nx K Rt = (z_la lv 0 (fun x => nx 6 lv (.ref x :: st) w)) := id rfl
theorem sX3_order_6 (lv : zL) (st : List Value) (w : zW) (nx K : Nat → zL → List Value → zW → Prop) (Rt : Option Value → zW → Prop) : z_st1 (tX3_order 6) 6 lv st w nx K Rt = (z_1a st (fun x r => z_ob w x 4 (fun fs => z_fl fs 4 (fun u => nx 9 lv (u :: r) w)))) := id rfl
theorem sX3_order_9 (lv : zL) (st : List Value) (w : zW) (nx K : Nat → zL → List Value → zW → Prop) (Rt : Option Value → zW → Prop) : z_st1 (tX3_order 9) 9 lv st w nx K Rt = (z_2i st (fun x y r => (y ≤ x → nx 149 lv r w) ∧ (¬ y ≤ x → nx 12 lv r w))) := id rfl
theorem sX3_order_12 (lv : zL) (st : List Value) (w : zW) (nx K : Nat → zL → List Value → zW → Prop) (Rt : Option Value → zW → Prop) : z_st1 (tX3_order 12) 12 lv st w nx K Rt = (z_la lv 0 (fun x => nx 13 lv (.ref x :: st) w)) := id rfl
theorem sX3_order_13 (lv : zL) (st : List Value) (w : zW) (nx K : Nat → zL → List Value → zW → Prop) (Rt : Option Value → zW → Prop) : z_st1 (tX3_order 13) 13 lv st w nx K Rt = (z_1a st (fun x r => z_ob w x 4 (fun fs => z_fl fs 0 (fun u => nx 16 lv (u :: r) w)))) := id rfl
theorem sX3_order_16 (lv : zL) (st : List Value) (w : zW) (nx K : Nat → zL → List Value → zW → Prop) (Rt : Option Value → zW → Prop) : z_st1 (tX3_order 16) 16 lv st w nx K Rt = (z_li lv 4 (fun x => nx 18 lv (.int x :: st) w)) := id rfl
theorem sX3_order_18 (lv : zL) (st : List Value) (w : zW) (nx K : Nat → zL → List Value → zW → Prop) (Rt : Option Value → zW → Prop) : z_st1 (tX3_order 18) 18 lv st w nx K Rt = (z_ia st (fun x i r => z_ar0 w x (fun m g => vp_in i m ∧ nx 19 lv (.int (g i.toNatClampNeg) :: r) w))) := id rfl
theorem sX3_order_19 (lv : zL) (st : List Value) (w : zW) (nx K : Nat → zL → List Value → zW → Prop) (Rt : Option Value → zW → Prop) : z_st1 (tX3_order 19) 19 lv st w nx K Rt = (z_1i st (fun x r => z_ok1 lv 5 = true ∧ nx 21 (lv.set 5 (some (.int x))) r w)) := id rfl
theorem sX3_order_21 (lv : zL) (st : List Value) (w : zW) (nx K : Nat → zL → List Value → zW → Prop) (Rt : Option Value → zW → Prop) : z_st1 (tX3_order 21) 21 lv st w nx K Rt = (z_li lv 5 (fun x => nx 23 lv (.int x :: st) w)) := id rfl
theorem sX3_order_23 (lv : zL) (st : List Value) (w : zW) (nx K : Nat → zL → List Value → zW → Prop) (Rt : Option Value → zW → Prop) : z_st1 (tX3_order 23) 23 lv st w nx K Rt = (z_la lv 0 (fun x => nx 24 lv (.ref x :: st) w)) := id rfl
theorem sX3_order_24 (lv : zL) (st : List Value) (w : zW) (nx K : Nat → zL → List Value → zW → Prop) (Rt : Option Value → zW → Prop) : z_st1 (tX3_order 24) 24 lv st w nx K Rt = (z_1a st (fun x r => z_ob w x 4 (fun fs => z_fl fs 1 (fun u => nx 27 lv (u :: r) w)))) := id rfl
theorem sX3_order_27 (lv : zL) (st : List Value) (w : zW) (nx K : Nat → zL → List Value → zW → Prop) (Rt : Option Value → zW → Prop) : z_st1 (tX3_order 27) 27 lv st w nx K Rt = (z_li lv 4 (fun x => nx 29 lv (.int x :: st) w)) := id rfl
theorem sX3_order_29 (lv : zL) (st : List Value) (w : zW) (nx K : Nat → zL → List Value → zW → Prop) (Rt : Option Value → zW → Prop) : z_st1 (tX3_order 29) 29 lv st w nx K Rt = (z_ia st (fun x i r => z_ar0 w x (fun m g => vp_in i m ∧ nx 30 lv (.int (g i.toNatClampNeg) :: r) w))) := id rfl
theorem sX3_order_30 (lv : zL) (st : List Value) (w : zW) (nx K : Nat → zL → List Value → zW → Prop) (Rt : Option Value → zW → Prop) : z_st1 (tX3_order 30) 30 lv st w nx K Rt = (z_2i st (fun x y r => nx 31 lv (.int (x + y) :: r) w)) := id rfl
theorem sX3_order_31 (lv : zL) (st : List Value) (w : zW) (nx K : Nat → zL → List Value → zW → Prop) (Rt : Option Value → zW → Prop) : z_st1 (tX3_order 31) 31 lv st w nx K Rt = (z_1i st (fun x r => z_ok1 lv 6 = true ∧ nx 33 (lv.set 6 (some (.int x))) r w)) := id rfl
theorem sX3_order_33 (lv : zL) (st : List Value) (w : zW) (nx K : Nat → zL → List Value → zW → Prop) (Rt : Option Value → zW → Prop) : z_st1 (tX3_order 33) 33 lv st w nx K Rt = (z_la lv 0 (fun x => nx 34 lv (.ref x :: st) w)) := id rfl
theorem sX3_order_34 (lv : zL) (st : List Value) (w : zW) (nx K : Nat → zL → List Value → zW → Prop) (Rt : Option Value → zW → Prop) : z_st1 (tX3_order 34) 34 lv st w nx K Rt = (z_1a st (fun x r => z_ob w x 4 (fun fs => z_fl fs 2 (fun u => nx 37 lv (u :: r) w)))) := id rfl
theorem sX3_order_37 (lv : zL) (st : List Value) (w : zW) (nx K : Nat → zL → List Value → zW → Prop) (Rt : Option Value → zW → Prop) : z_st1 (tX3_order 37) 37 lv st w nx K Rt = (z_li lv 4 (fun x => nx 39 lv (.int x :: st) w)) := id rfl
theorem sX3_order_39 (lv : zL) (st : List Value) (w : zW) (nx K : Nat → zL → List Value → zW → Prop) (Rt : Option Value → zW → Prop) : z_st1 (tX3_order 39) 39 lv st w nx K Rt = (z_ia st (fun x i r => z_ar0 w x (fun m g => vp_in i m ∧ nx 40 lv (.int (g i.toNatClampNeg) :: r) w))) := id rfl
theorem sX3_order_40 (lv : zL) (st : List Value) (w : zW) (nx K : Nat → zL → List Value → zW → Prop) (Rt : Option Value → zW → Prop) : z_st1 (tX3_order 40) 40 lv st w nx K Rt = (nx 41 lv (.int (2 : Int32) :: st) w) := id rfl
theorem sX3_order_41 (lv : zL) (st : List Value) (w : zW) (nx K : Nat → zL → List Value → zW → Prop) (Rt : Option Value → zW → Prop) : z_st1 (tX3_order 41) 41 lv st w nx K Rt = (z_2i st (fun x y r => (¬ x = y → nx 70 lv r w) ∧ (x = y → nx 44 lv r w))) := id rfl
theorem sX3_order_44 (lv : zL) (st : List Value) (w : zW) (nx K : Nat → zL → List Value → zW → Prop) (Rt : Option Value → zW → Prop) : z_st1 (tX3_order 44) 44 lv st w nx K Rt = (z_la lv 1 (fun x => nx 45 lv (.ref x :: st) w)) := id rfl
theorem sX3_order_45 (lv : zL) (st : List Value) (w : zW) (nx K : Nat → zL → List Value → zW → Prop) (Rt : Option Value → zW → Prop) : z_st1 (tX3_order 45) 45 lv st w nx K Rt = (z_li lv 2 (fun x => nx 46 lv (.int x :: st) w)) := id rfl
theorem sX3_order_46 (lv : zL) (st : List Value) (w : zW) (nx K : Nat → zL → List Value → zW → Prop) (Rt : Option Value → zW → Prop) : z_st1 (tX3_order 46) 46 lv st w nx K Rt = (z_li lv 5 (fun x => nx 48 lv (.int x :: st) w)) := id rfl
theorem sX3_order_48 (lv : zL) (st : List Value) (w : zW) (nx K : Nat → zL → List Value → zW → Prop) (Rt : Option Value → zW → Prop) : z_st1 (tX3_order 48) 48 lv st w nx K Rt = (z_li lv 6 (fun x => nx 50 lv (.int x :: st) w)) := id rfl
theorem sX3_order_53 (lv : zL) (st : List Value) (w : zW) (nx K : Nat → zL → List Value → zW → Prop) (Rt : Option Value → zW → Prop) : z_st1 (tX3_order 53) 53 lv st w nx K Rt = (z_la lv 1 (fun x => nx 54 lv (.ref x :: st) w)) := id rfl
theorem sX3_order_54 (lv : zL) (st : List Value) (w : zW) (nx K : Nat → zL → List Value → zW → Prop) (Rt : Option Value → zW → Prop) : z_st1 (tX3_order 54) 54 lv st w nx K Rt = (z_li lv 3 (fun x => nx 55 lv (.int x :: st) w)) := id rfl
theorem sX3_order_55 (lv : zL) (st : List Value) (w : zW) (nx K : Nat → zL → List Value → zW → Prop) (Rt : Option Value → zW → Prop) : z_st1 (tX3_order 55) 55 lv st w nx K Rt = (z_li lv 5 (fun x => nx 57 lv (.int x :: st) w)) := id rfl
theorem sX3_order_57 (lv : zL) (st : List Value) (w : zW) (nx K : Nat → zL → List Value → zW → Prop) (Rt : Option Value → zW → Prop) : z_st1 (tX3_order 57) 57 lv st w nx K Rt = (z_li lv 6 (fun x => nx 59 lv (.int x :: st) w)) := id rfl
theorem sX3_order_65 (lv : zL) (st : List Value) (w : zW) (nx K : Nat → zL → List Value → zW → Prop) (Rt : Option Value → zW → Prop) : z_st1 (tX3_order 65) 65 lv st w nx K Rt = (z_1i st (fun x r => z_ok1 lv 7 = true ∧ nx 67 (lv.set 7 (some (.int x))) r w)) := id rfl
theorem sX3_order_67 (lv : zL) (st : List Value) (w : zW) (nx K : Nat → zL → List Value → zW → Prop) (Rt : Option Value → zW → Prop) : z_st1 (tX3_order 67) 67 lv st w nx K Rt = (nx 119 lv st w) := id rfl
theorem sX3_order_70 (lv : zL) (st : List Value) (w : zW) (nx K : Nat → zL → List Value → zW → Prop) (Rt : Option Value → zW → Prop) : z_st1 (tX3_order 70) 70 lv st w nx K Rt = (z_la lv 0 (fun x => nx 71 lv (.ref x :: st) w)) := id rfl
theorem sX3_order_71 (lv : zL) (st : List Value) (w : zW) (nx K : Nat → zL → List Value → zW → Prop) (Rt : Option Value → zW → Prop) : z_st1 (tX3_order 71) 71 lv st w nx K Rt = (z_1a st (fun x r => z_ob w x 4 (fun fs => z_fl fs 2 (fun u => nx 74 lv (u :: r) w)))) := id rfl
theorem sX3_order_74 (lv : zL) (st : List Value) (w : zW) (nx K : Nat → zL → List Value → zW → Prop) (Rt : Option Value → zW → Prop) : z_st1 (tX3_order 74) 74 lv st w nx K Rt = (z_li lv 4 (fun x => nx 76 lv (.int x :: st) w)) := id rfl
theorem sX3_order_76 (lv : zL) (st : List Value) (w : zW) (nx K : Nat → zL → List Value → zW → Prop) (Rt : Option Value → zW → Prop) : z_st1 (tX3_order 76) 76 lv st w nx K Rt = (z_ia st (fun x i r => z_ar0 w x (fun m g => vp_in i m ∧ nx 77 lv (.int (g i.toNatClampNeg) :: r) w))) := id rfl
theorem sX3_order_77 (lv : zL) (st : List Value) (w : zW) (nx K : Nat → zL → List Value → zW → Prop) (Rt : Option Value → zW → Prop) : z_st1 (tX3_order 77) 77 lv st w nx K Rt = (nx 78 lv (.int (3 : Int32) :: st) w) := id rfl
theorem sX3_order_78 (lv : zL) (st : List Value) (w : zW) (nx K : Nat → zL → List Value → zW → Prop) (Rt : Option Value → zW → Prop) : z_st1 (tX3_order 78) 78 lv st w nx K Rt = (z_2i st (fun x y r => (¬ x = y → nx 107 lv r w) ∧ (x = y → nx 81 lv r w))) := id rfl
theorem sX3_order_81 (lv : zL) (st : List Value) (w : zW) (nx K : Nat → zL → List Value → zW → Prop) (Rt : Option Value → zW → Prop) : z_st1 (tX3_order 81) 81 lv st w nx K Rt = (z_la lv 1 (fun x => nx 82 lv (.ref x :: st) w)) := id rfl
theorem sX3_order_82 (lv : zL) (st : List Value) (w : zW) (nx K : Nat → zL → List Value → zW → Prop) (Rt : Option Value → zW → Prop) : z_st1 (tX3_order 82) 82 lv st w nx K Rt = (z_li lv 2 (fun x => nx 83 lv (.int x :: st) w)) := id rfl
theorem sX3_order_83 (lv : zL) (st : List Value) (w : zW) (nx K : Nat → zL → List Value → zW → Prop) (Rt : Option Value → zW → Prop) : z_st1 (tX3_order 83) 83 lv st w nx K Rt = (z_li lv 5 (fun x => nx 85 lv (.int x :: st) w)) := id rfl
theorem sX3_order_85 (lv : zL) (st : List Value) (w : zW) (nx K : Nat → zL → List Value → zW → Prop) (Rt : Option Value → zW → Prop) : z_st1 (tX3_order 85) 85 lv st w nx K Rt = (z_li lv 6 (fun x => nx 87 lv (.int x :: st) w)) := id rfl
theorem sX3_order_90 (lv : zL) (st : List Value) (w : zW) (nx K : Nat → zL → List Value → zW → Prop) (Rt : Option Value → zW → Prop) : z_st1 (tX3_order 90) 90 lv st w nx K Rt = (z_la lv 1 (fun x => nx 91 lv (.ref x :: st) w)) := id rfl
theorem sX3_order_91 (lv : zL) (st : List Value) (w : zW) (nx K : Nat → zL → List Value → zW → Prop) (Rt : Option Value → zW → Prop) : z_st1 (tX3_order 91) 91 lv st w nx K Rt = (z_li lv 3 (fun x => nx 92 lv (.int x :: st) w)) := id rfl
theorem sX3_order_92 (lv : zL) (st : List Value) (w : zW) (nx K : Nat → zL → List Value → zW → Prop) (Rt : Option Value → zW → Prop) : z_st1 (tX3_order 92) 92 lv st w nx K Rt = (z_li lv 5 (fun x => nx 94 lv (.int x :: st) w)) := id rfl
theorem sX3_order_94 (lv : zL) (st : List Value) (w : zW) (nx K : Nat → zL → List Value → zW → Prop) (Rt : Option Value → zW → Prop) : z_st1 (tX3_order 94) 94 lv st w nx K Rt = (z_li lv 6 (fun x => nx 96 lv (.int x :: st) w)) := id rfl
theorem sX3_order_102 (lv : zL) (st : List Value) (w : zW) (nx K : Nat → zL → List Value → zW → Prop) (Rt : Option Value → zW → Prop) : z_st1 (tX3_order 102) 102 lv st w nx K Rt = (z_1i st (fun x r => z_ok1 lv 7 = true ∧ nx 104 (lv.set 7 (some (.int x))) r w)) := id rfl
theorem sX3_order_104 (lv : zL) (st : List Value) (w : zW) (nx K : Nat → zL → List Value → zW → Prop) (Rt : Option Value → zW → Prop) : z_st1 (tX3_order 104) 104 lv st w nx K Rt = (nx 119 lv st w) := id rfl
theorem sX3_order_107 (lv : zL) (st : List Value) (w : zW) (nx K : Nat → zL → List Value → zW → Prop) (Rt : Option Value → zW → Prop) : z_st1 (tX3_order 107) 107 lv st w nx K Rt = (z_la lv 1 (fun x => nx 108 lv (.ref x :: st) w)) := id rfl
theorem sX3_order_108 (lv : zL) (st : List Value) (w : zW) (nx K : Nat → zL → List Value → zW → Prop) (Rt : Option Value → zW → Prop) : z_st1 (tX3_order 108) 108 lv st w nx K Rt = (z_li lv 2 (fun x => nx 109 lv (.int x :: st) w)) := id rfl
theorem sX3_order_109 (lv : zL) (st : List Value) (w : zW) (nx K : Nat → zL → List Value → zW → Prop) (Rt : Option Value → zW → Prop) : z_st1 (tX3_order 109) 109 lv st w nx K Rt = (z_li lv 3 (fun x => nx 110 lv (.int x :: st) w)) := id rfl
theorem sX3_order_110 (lv : zL) (st : List Value) (w : zW) (nx K : Nat → zL → List Value → zW → Prop) (Rt : Option Value → zW → Prop) : z_st1 (tX3_order 110) 110 lv st w nx K Rt = (z_li lv 5 (fun x => nx 112 lv (.int x :: st) w)) := id rfl
theorem sX3_order_112 (lv : zL) (st : List Value) (w : zW) (nx K : Nat → zL → List Value → zW → Prop) (Rt : Option Value → zW → Prop) : z_st1 (tX3_order 112) 112 lv st w nx K Rt = (z_li lv 6 (fun x => nx 114 lv (.int x :: st) w)) := id rfl
theorem sX3_order_117 (lv : zL) (st : List Value) (w : zW) (nx K : Nat → zL → List Value → zW → Prop) (Rt : Option Value → zW → Prop) : z_st1 (tX3_order 117) 117 lv st w nx K Rt = (z_1i st (fun x r => z_ok1 lv 7 = true ∧ nx 119 (lv.set 7 (some (.int x))) r w)) := id rfl
theorem sX3_order_119 (lv : zL) (st : List Value) (w : zW) (nx K : Nat → zL → List Value → zW → Prop) (Rt : Option Value → zW → Prop) : z_st1 (tX3_order 119) 119 lv st w nx K Rt = (z_li lv 7 (fun x => nx 121 lv (.int x :: st) w)) := id rfl
theorem sX3_order_121 (lv : zL) (st : List Value) (w : zW) (nx K : Nat → zL → List Value → zW → Prop) (Rt : Option Value → zW → Prop) : z_st1 (tX3_order 121) 121 lv st w nx K Rt = (z_1i st (fun x r => (x = 0 → nx 143 lv r w) ∧ (¬ x = 0 → nx 124 lv r w))) := id rfl
theorem sX3_order_124 (lv : zL) (st : List Value) (w : zW) (nx K : Nat → zL → List Value → zW → Prop) (Rt : Option Value → zW → Prop) : z_st1 (tX3_order 124) 124 lv st w nx K Rt = (z_la lv 0 (fun x => nx 125 lv (.ref x :: st) w)) := id rfl
theorem sX3_order_125 (lv : zL) (st : List Value) (w : zW) (nx K : Nat → zL → List Value → zW → Prop) (Rt : Option Value → zW → Prop) : z_st1 (tX3_order 125) 125 lv st w nx K Rt = (z_1a st (fun x r => z_ob w x 4 (fun fs => z_fl fs 3 (fun u => nx 128 lv (u :: r) w)))) := id rfl
theorem sX3_order_128 (lv : zL) (st : List Value) (w : zW) (nx K : Nat → zL → List Value → zW → Prop) (Rt : Option Value → zW → Prop) : z_st1 (tX3_order 128) 128 lv st w nx K Rt = (z_li lv 4 (fun x => nx 130 lv (.int x :: st) w)) := id rfl
theorem sX3_order_130 (lv : zL) (st : List Value) (w : zW) (nx K : Nat → zL → List Value → zW → Prop) (Rt : Option Value → zW → Prop) : z_st1 (tX3_order 130) 130 lv st w nx K Rt = (z_ia st (fun x i r => z_ar1 w x (fun m g => vp_in i m ∧ nx 131 lv (.int (g i.toNatClampNeg) :: r) w))) := id rfl
theorem sX3_order_131 (lv : zL) (st : List Value) (w : zW) (nx K : Nat → zL → List Value → zW → Prop) (Rt : Option Value → zW → Prop) : z_st1 (tX3_order 131) 131 lv st w nx K Rt = (z_1i st (fun x r => (x = 0 → nx 140 lv r w) ∧ (¬ x = 0 → nx 134 lv r w))) := id rfl
theorem sX3_order_134 (lv : zL) (st : List Value) (w : zW) (nx K : Nat → zL → List Value → zW → Prop) (Rt : Option Value → zW → Prop) : z_st1 (tX3_order 134) 134 lv st w nx K Rt = (z_li lv 7 (fun x => nx 136 lv (.int x :: st) w)) := id rfl
theorem sX3_order_136 (lv : zL) (st : List Value) (w : zW) (nx K : Nat → zL → List Value → zW → Prop) (Rt : Option Value → zW → Prop) : z_st1 (tX3_order 136) 136 lv st w nx K Rt = (z_1i st (fun x r => nx 137 lv (.int (-x) :: r) w)) := id rfl
theorem sX3_order_137 (lv : zL) (st : List Value) (w : zW) (nx K : Nat → zL → List Value → zW → Prop) (Rt : Option Value → zW → Prop) : z_st1 (tX3_order 137) 137 lv st w nx K Rt = (nx 142 lv st w) := id rfl
theorem sX3_order_140 (lv : zL) (st : List Value) (w : zW) (nx K : Nat → zL → List Value → zW → Prop) (Rt : Option Value → zW → Prop) : z_st1 (tX3_order 140) 140 lv st w nx K Rt = (z_li lv 7 (fun x => nx 142 lv (.int x :: st) w)) := id rfl
theorem sX3_order_142 (lv : zL) (st : List Value) (w : zW) (nx K : Nat → zL → List Value → zW → Prop) (Rt : Option Value → zW → Prop) : z_st1 (tX3_order 142) 142 lv st w nx K Rt = (z_e1 st (fun x => Rt (some (.int x)) w)) := id rfl
theorem sX3_order_143 (lv : zL) (st : List Value) (w : zW) (nx K : Nat → zL → List Value → zW → Prop) (Rt : Option Value → zW → Prop) : z_st1 (tX3_order 143) 143 lv st w nx K Rt = (z_li lv 4 (fun x => z_ok1 lv 4 = true ∧ nx 146 (lv.set 4 (some (.int (x + (1 : Int32))))) st w)) := id rfl
theorem sX3_order_146 (lv : zL) (st : List Value) (w : zW) (nx K : Nat → zL → List Value → zW → Prop) (Rt : Option Value → zW → Prop) : z_st1 (tX3_order 146) 146 lv st w nx K Rt = (nx 3 lv st w) := id rfl
theorem sX3_order_149 (lv : zL) (st : List Value) (w : zW) (nx K : Nat → zL → List Value → zW → Prop) (Rt : Option Value → zW → Prop) : z_st1 (tX3_order 149) 149 lv st w nx K Rt = (nx 150 lv (.int (0 : Int32) :: st) w) := id rfl
theorem sX3_order_150 (lv : zL) (st : List Value) (w : zW) (nx K : Nat → zL → List Value → zW → Prop) (Rt : Option Value → zW → Prop) : z_st1 (tX3_order 150) 150 lv st w nx K Rt = (z_e1 st (fun x => Rt (some (.int x)) w)) := id rfl
theorem sX3_order_50 (lv : zL) (st : List Value) (w : zW) (nx K : Nat → zL → List Value → zW → Prop) (Rt : Option Value → zW → Prop) : z_st1 (tX3_order 50) 50 lv st w nx K Rt = K 50 lv st w := id rfl
theorem sX3_order_59 (lv : zL) (st : List Value) (w : zW) (nx K : Nat → zL → List Value → zW → Prop) (Rt : Option Value → zW → Prop) : z_st1 (tX3_order 59) 59 lv st w nx K Rt = K 59 lv st w := id rfl
theorem sX3_order_62 (lv : zL) (st : List Value) (w : zW) (nx K : Nat → zL → List Value → zW → Prop) (Rt : Option Value → zW → Prop) : z_st1 (tX3_order 62) 62 lv st w nx K Rt = K 62 lv st w := id rfl
theorem sX3_order_87 (lv : zL) (st : List Value) (w : zW) (nx K : Nat → zL → List Value → zW → Prop) (Rt : Option Value → zW → Prop) : z_st1 (tX3_order 87) 87 lv st w nx K Rt = K 87 lv st w := id rfl
theorem sX3_order_96 (lv : zL) (st : List Value) (w : zW) (nx K : Nat → zL → List Value → zW → Prop) (Rt : Option Value → zW → Prop) : z_st1 (tX3_order 96) 96 lv st w nx K Rt = K 96 lv st w := id rfl
theorem sX3_order_99 (lv : zL) (st : List Value) (w : zW) (nx K : Nat → zL → List Value → zW → Prop) (Rt : Option Value → zW → Prop) : z_st1 (tX3_order 99) 99 lv st w nx K Rt = K 99 lv st w := id rfl
theorem sX3_order_114 (lv : zL) (st : List Value) (w : zW) (nx K : Nat → zL → List Value → zW → Prop) (Rt : Option Value → zW → Prop) : z_st1 (tX3_order 114) 114 lv st w nx K Rt = K 114 lv st w := id rfl
theorem dX3_order_50 : decode cX3_order 50 = .ok (.invokestatic 36, 3) := by decide +kernel
theorem dX3_order_59 : decode cX3_order 59 = .ok (.invokestatic 36, 3) := by decide +kernel
theorem dX3_order_62 : decode cX3_order 62 = .ok (.invokestatic 40, 3) := by decide +kernel
theorem dX3_order_87 : decode cX3_order 87 = .ok (.invokestatic 44, 3) := by decide +kernel
theorem dX3_order_96 : decode cX3_order 96 = .ok (.invokestatic 44, 3) := by decide +kernel
theorem dX3_order_99 : decode cX3_order 99 = .ok (.invokestatic 40, 3) := by decide +kernel
theorem dX3_order_114 : decode cX3_order 114 = .ok (.invokestatic 47, 3) := by decide +kernel

def tmX3_sign (pc : Nat) : zI := match pc with
  | 0 => (2, 0, 0, 1, 0)
  | 1 => (2, 2, 0, 2, 0)
  | 2 => (28, 0, 0, 3, 0)
  | 3 => (35, 8, 0, 6, 0)
  | 6 => (6, 0, 0, 7, 0)
  | 7 => (53, 0, 0, 8, 0)
  | 8 => (2, 0, 0, 9, 0)
  | 9 => (2, 2, 0, 10, 0)
  | 10 => (28, 0, 0, 11, 0)
  | 11 => (37, 18, 0, 14, 0)
  | 14 => (6, 0, 0, 15, (-1))
  | 15 => (33, 19, 0, 18, 0)
  | 18 => (6, 0, 0, 19, 1)
  | 19 => (53, 0, 0, 20, 0)
  | _ => (99, 0, 0, 0, 0)
def tX3_sign (pc : Nat) : zI := if pc < 20 then tmX3_sign pc else (99, 0, 0, 0, 0)
theorem tkX3_sign : z_tab RX3 wsX3_sign 4 (some .int) cX3_sign 20 tX3_sign := z_tab_of (tm := tmX3_sign) (by decide +kernel)
theorem sX3_sign_0 (lv : zL) (st : List Value) (w : zW) (nx K : Nat → zL → List Value → zW → Prop) (Rt : Option Value → zW → Prop) : z_st1 (tX3_sign 0) 0 lv st w nx K Rt = (z_ll lv 0 (fun x => nx 1 lv (.long x :: st) w)) := id rfl
theorem sX3_sign_1 (lv : zL) (st : List Value) (w : zW) (nx K : Nat → zL → List Value → zW → Prop) (Rt : Option Value → zW → Prop) : z_st1 (tX3_sign 1) 1 lv st w nx K Rt = (z_ll lv 2 (fun x => nx 2 lv (.long x :: st) w)) := id rfl
theorem sX3_sign_2 (lv : zL) (st : List Value) (w : zW) (nx K : Nat → zL → List Value → zW → Prop) (Rt : Option Value → zW → Prop) : z_st1 (tX3_sign 2) 2 lv st w nx K Rt = (z_2l st (fun x y r => nx 3 lv (.int (lg_cmp x y) :: r) w)) := id rfl
theorem sX3_sign_3 (lv : zL) (st : List Value) (w : zW) (nx K : Nat → zL → List Value → zW → Prop) (Rt : Option Value → zW → Prop) : z_st1 (tX3_sign 3) 3 lv st w nx K Rt = (z_1i st (fun x r => (¬ x = 0 → nx 8 lv r w) ∧ (x = 0 → nx 6 lv r w))) := id rfl
theorem sX3_sign_6 (lv : zL) (st : List Value) (w : zW) (nx K : Nat → zL → List Value → zW → Prop) (Rt : Option Value → zW → Prop) : z_st1 (tX3_sign 6) 6 lv st w nx K Rt = (nx 7 lv (.int (0 : Int32) :: st) w) := id rfl
theorem sX3_sign_7 (lv : zL) (st : List Value) (w : zW) (nx K : Nat → zL → List Value → zW → Prop) (Rt : Option Value → zW → Prop) : z_st1 (tX3_sign 7) 7 lv st w nx K Rt = (z_e1 st (fun x => Rt (some (.int x)) w)) := id rfl
theorem sX3_sign_8 (lv : zL) (st : List Value) (w : zW) (nx K : Nat → zL → List Value → zW → Prop) (Rt : Option Value → zW → Prop) : z_st1 (tX3_sign 8) 8 lv st w nx K Rt = (z_ll lv 0 (fun x => nx 9 lv (.long x :: st) w)) := id rfl
theorem sX3_sign_9 (lv : zL) (st : List Value) (w : zW) (nx K : Nat → zL → List Value → zW → Prop) (Rt : Option Value → zW → Prop) : z_st1 (tX3_sign 9) 9 lv st w nx K Rt = (z_ll lv 2 (fun x => nx 10 lv (.long x :: st) w)) := id rfl
theorem sX3_sign_10 (lv : zL) (st : List Value) (w : zW) (nx K : Nat → zL → List Value → zW → Prop) (Rt : Option Value → zW → Prop) : z_st1 (tX3_sign 10) 10 lv st w nx K Rt = (z_2l st (fun x y r => nx 11 lv (.int (lg_cmp x y) :: r) w)) := id rfl
theorem sX3_sign_11 (lv : zL) (st : List Value) (w : zW) (nx K : Nat → zL → List Value → zW → Prop) (Rt : Option Value → zW → Prop) : z_st1 (tX3_sign 11) 11 lv st w nx K Rt = (z_1i st (fun x r => (0 ≤ x → nx 18 lv r w) ∧ (¬ 0 ≤ x → nx 14 lv r w))) := id rfl
theorem sX3_sign_14 (lv : zL) (st : List Value) (w : zW) (nx K : Nat → zL → List Value → zW → Prop) (Rt : Option Value → zW → Prop) : z_st1 (tX3_sign 14) 14 lv st w nx K Rt = (nx 15 lv (.int (-1 : Int32) :: st) w) := id rfl
theorem sX3_sign_15 (lv : zL) (st : List Value) (w : zW) (nx K : Nat → zL → List Value → zW → Prop) (Rt : Option Value → zW → Prop) : z_st1 (tX3_sign 15) 15 lv st w nx K Rt = (nx 19 lv st w) := id rfl
theorem sX3_sign_18 (lv : zL) (st : List Value) (w : zW) (nx K : Nat → zL → List Value → zW → Prop) (Rt : Option Value → zW → Prop) : z_st1 (tX3_sign 18) 18 lv st w nx K Rt = (nx 19 lv (.int (1 : Int32) :: st) w) := id rfl
theorem sX3_sign_19 (lv : zL) (st : List Value) (w : zW) (nx K : Nat → zL → List Value → zW → Prop) (Rt : Option Value → zW → Prop) : z_st1 (tX3_sign 19) 19 lv st w nx K Rt = (z_e1 st (fun x => Rt (some (.int x)) w)) := id rfl

def tmX3_byBytes (pc : Nat) : zI := match pc with
  | 0 => (0, 3, 0, 1, 0)
  | 1 => (3, 5, 0, 3, 0)
  | 3 => (0, 5, 0, 5, 0)
  | 5 => (0, 4, 0, 7, 0)
  | 7 => (43, 49, 0, 10, 0)
  | 10 => (1, 0, 0, 11, 0)
  | 11 => (0, 1, 0, 12, 0)
  | 12 => (0, 5, 0, 14, 0)
  | 17 => (1, 0, 0, 18, 0)
  | 18 => (0, 2, 0, 19, 0)
  | 19 => (0, 5, 0, 21, 0)
  | 24 => (9, 0, 0, 25, 0)
  | 25 => (3, 6, 0, 27, 0)
  | 27 => (0, 6, 0, 29, 0)
  | 29 => (34, 43, 0, 32, 0)
  | 32 => (0, 6, 0, 34, 0)
  | 34 => (37, 41, 0, 37, 0)
  | 37 => (6, 0, 0, 38, (-1))
  | 38 => (33, 42, 0, 41, 0)
  | 41 => (6, 0, 0, 42, 1)
  | 42 => (53, 0, 0, 43, 0)
  | 43 => (7, 5, 0, 46, 1)
  | 46 => (33, 3, 0, 49, 0)
  | 49 => (6, 0, 0, 50, 0)
  | 50 => (53, 0, 0, 51, 0)
  | _ => (99, 0, 0, 0, 0)
def tX3_byBytes (pc : Nat) : zI := if pc < 51 then tmX3_byBytes pc else (99, 0, 0, 0, 0)
theorem tkX3_byBytes : z_tab RX3 wsX3_byBytes 7 (some .int) cX3_byBytes 51 tX3_byBytes := z_tab_of (tm := tmX3_byBytes) (by decide +kernel)
theorem sX3_byBytes_0 (lv : zL) (st : List Value) (w : zW) (nx K : Nat → zL → List Value → zW → Prop) (Rt : Option Value → zW → Prop) : z_st1 (tX3_byBytes 0) 0 lv st w nx K Rt = (z_li lv 3 (fun x => nx 1 lv (.int x :: st) w)) := id rfl
theorem sX3_byBytes_1 (lv : zL) (st : List Value) (w : zW) (nx K : Nat → zL → List Value → zW → Prop) (Rt : Option Value → zW → Prop) : z_st1 (tX3_byBytes 1) 1 lv st w nx K Rt = (z_1i st (fun x r => z_ok1 lv 5 = true ∧ nx 3 (lv.set 5 (some (.int x))) r w)) := id rfl
theorem sX3_byBytes_3 (lv : zL) (st : List Value) (w : zW) (nx K : Nat → zL → List Value → zW → Prop) (Rt : Option Value → zW → Prop) : z_st1 (tX3_byBytes 3) 3 lv st w nx K Rt = (z_li lv 5 (fun x => nx 5 lv (.int x :: st) w)) := id rfl
theorem sX3_byBytes_5 (lv : zL) (st : List Value) (w : zW) (nx K : Nat → zL → List Value → zW → Prop) (Rt : Option Value → zW → Prop) : z_st1 (tX3_byBytes 5) 5 lv st w nx K Rt = (z_li lv 4 (fun x => nx 7 lv (.int x :: st) w)) := id rfl
theorem sX3_byBytes_7 (lv : zL) (st : List Value) (w : zW) (nx K : Nat → zL → List Value → zW → Prop) (Rt : Option Value → zW → Prop) : z_st1 (tX3_byBytes 7) 7 lv st w nx K Rt = (z_2i st (fun x y r => (y ≤ x → nx 49 lv r w) ∧ (¬ y ≤ x → nx 10 lv r w))) := id rfl
theorem sX3_byBytes_10 (lv : zL) (st : List Value) (w : zW) (nx K : Nat → zL → List Value → zW → Prop) (Rt : Option Value → zW → Prop) : z_st1 (tX3_byBytes 10) 10 lv st w nx K Rt = (z_la lv 0 (fun x => nx 11 lv (.ref x :: st) w)) := id rfl
theorem sX3_byBytes_11 (lv : zL) (st : List Value) (w : zW) (nx K : Nat → zL → List Value → zW → Prop) (Rt : Option Value → zW → Prop) : z_st1 (tX3_byBytes 11) 11 lv st w nx K Rt = (z_li lv 1 (fun x => nx 12 lv (.int x :: st) w)) := id rfl
theorem sX3_byBytes_12 (lv : zL) (st : List Value) (w : zW) (nx K : Nat → zL → List Value → zW → Prop) (Rt : Option Value → zW → Prop) : z_st1 (tX3_byBytes 12) 12 lv st w nx K Rt = (z_li lv 5 (fun x => nx 14 lv (.int x :: st) w)) := id rfl
theorem sX3_byBytes_17 (lv : zL) (st : List Value) (w : zW) (nx K : Nat → zL → List Value → zW → Prop) (Rt : Option Value → zW → Prop) : z_st1 (tX3_byBytes 17) 17 lv st w nx K Rt = (z_la lv 0 (fun x => nx 18 lv (.ref x :: st) w)) := id rfl
theorem sX3_byBytes_18 (lv : zL) (st : List Value) (w : zW) (nx K : Nat → zL → List Value → zW → Prop) (Rt : Option Value → zW → Prop) : z_st1 (tX3_byBytes 18) 18 lv st w nx K Rt = (z_li lv 2 (fun x => nx 19 lv (.int x :: st) w)) := id rfl
theorem sX3_byBytes_19 (lv : zL) (st : List Value) (w : zW) (nx K : Nat → zL → List Value → zW → Prop) (Rt : Option Value → zW → Prop) : z_st1 (tX3_byBytes 19) 19 lv st w nx K Rt = (z_li lv 5 (fun x => nx 21 lv (.int x :: st) w)) := id rfl
theorem sX3_byBytes_24 (lv : zL) (st : List Value) (w : zW) (nx K : Nat → zL → List Value → zW → Prop) (Rt : Option Value → zW → Prop) : z_st1 (tX3_byBytes 24) 24 lv st w nx K Rt = (z_2i st (fun x y r => nx 25 lv (.int (x - y) :: r) w)) := id rfl
theorem sX3_byBytes_25 (lv : zL) (st : List Value) (w : zW) (nx K : Nat → zL → List Value → zW → Prop) (Rt : Option Value → zW → Prop) : z_st1 (tX3_byBytes 25) 25 lv st w nx K Rt = (z_1i st (fun x r => z_ok1 lv 6 = true ∧ nx 27 (lv.set 6 (some (.int x))) r w)) := id rfl
theorem sX3_byBytes_27 (lv : zL) (st : List Value) (w : zW) (nx K : Nat → zL → List Value → zW → Prop) (Rt : Option Value → zW → Prop) : z_st1 (tX3_byBytes 27) 27 lv st w nx K Rt = (z_li lv 6 (fun x => nx 29 lv (.int x :: st) w)) := id rfl
theorem sX3_byBytes_29 (lv : zL) (st : List Value) (w : zW) (nx K : Nat → zL → List Value → zW → Prop) (Rt : Option Value → zW → Prop) : z_st1 (tX3_byBytes 29) 29 lv st w nx K Rt = (z_1i st (fun x r => (x = 0 → nx 43 lv r w) ∧ (¬ x = 0 → nx 32 lv r w))) := id rfl
theorem sX3_byBytes_32 (lv : zL) (st : List Value) (w : zW) (nx K : Nat → zL → List Value → zW → Prop) (Rt : Option Value → zW → Prop) : z_st1 (tX3_byBytes 32) 32 lv st w nx K Rt = (z_li lv 6 (fun x => nx 34 lv (.int x :: st) w)) := id rfl
theorem sX3_byBytes_34 (lv : zL) (st : List Value) (w : zW) (nx K : Nat → zL → List Value → zW → Prop) (Rt : Option Value → zW → Prop) : z_st1 (tX3_byBytes 34) 34 lv st w nx K Rt = (z_1i st (fun x r => (0 ≤ x → nx 41 lv r w) ∧ (¬ 0 ≤ x → nx 37 lv r w))) := id rfl
theorem sX3_byBytes_37 (lv : zL) (st : List Value) (w : zW) (nx K : Nat → zL → List Value → zW → Prop) (Rt : Option Value → zW → Prop) : z_st1 (tX3_byBytes 37) 37 lv st w nx K Rt = (nx 38 lv (.int (-1 : Int32) :: st) w) := id rfl
theorem sX3_byBytes_38 (lv : zL) (st : List Value) (w : zW) (nx K : Nat → zL → List Value → zW → Prop) (Rt : Option Value → zW → Prop) : z_st1 (tX3_byBytes 38) 38 lv st w nx K Rt = (nx 42 lv st w) := id rfl
theorem sX3_byBytes_41 (lv : zL) (st : List Value) (w : zW) (nx K : Nat → zL → List Value → zW → Prop) (Rt : Option Value → zW → Prop) : z_st1 (tX3_byBytes 41) 41 lv st w nx K Rt = (nx 42 lv (.int (1 : Int32) :: st) w) := id rfl
theorem sX3_byBytes_42 (lv : zL) (st : List Value) (w : zW) (nx K : Nat → zL → List Value → zW → Prop) (Rt : Option Value → zW → Prop) : z_st1 (tX3_byBytes 42) 42 lv st w nx K Rt = (z_e1 st (fun x => Rt (some (.int x)) w)) := id rfl
theorem sX3_byBytes_43 (lv : zL) (st : List Value) (w : zW) (nx K : Nat → zL → List Value → zW → Prop) (Rt : Option Value → zW → Prop) : z_st1 (tX3_byBytes 43) 43 lv st w nx K Rt = (z_li lv 5 (fun x => z_ok1 lv 5 = true ∧ nx 46 (lv.set 5 (some (.int (x + (1 : Int32))))) st w)) := id rfl
theorem sX3_byBytes_46 (lv : zL) (st : List Value) (w : zW) (nx K : Nat → zL → List Value → zW → Prop) (Rt : Option Value → zW → Prop) : z_st1 (tX3_byBytes 46) 46 lv st w nx K Rt = (nx 3 lv st w) := id rfl
theorem sX3_byBytes_49 (lv : zL) (st : List Value) (w : zW) (nx K : Nat → zL → List Value → zW → Prop) (Rt : Option Value → zW → Prop) : z_st1 (tX3_byBytes 49) 49 lv st w nx K Rt = (nx 50 lv (.int (0 : Int32) :: st) w) := id rfl
theorem sX3_byBytes_50 (lv : zL) (st : List Value) (w : zW) (nx K : Nat → zL → List Value → zW → Prop) (Rt : Option Value → zW → Prop) : z_st1 (tX3_byBytes 50) 50 lv st w nx K Rt = (z_e1 st (fun x => Rt (some (.int x)) w)) := id rfl
theorem sX3_byBytes_14 (lv : zL) (st : List Value) (w : zW) (nx K : Nat → zL → List Value → zW → Prop) (Rt : Option Value → zW → Prop) : z_st1 (tX3_byBytes 14) 14 lv st w nx K Rt = K 14 lv st w := id rfl
theorem sX3_byBytes_21 (lv : zL) (st : List Value) (w : zW) (nx K : Nat → zL → List Value → zW → Prop) (Rt : Option Value → zW → Prop) : z_st1 (tX3_byBytes 21) 21 lv st w nx K Rt = K 21 lv st w := id rfl
theorem dX3_byBytes_14 : decode cX3_byBytes 14 = .ok (.invokevirtual 51, 3) := by decide +kernel
theorem dX3_byBytes_21 : decode cX3_byBytes 21 = .ok (.invokevirtual 51, 3) := by decide +kernel

def tmX3_signed (pc : Nat) : zI := match pc with
  | 0 => (1, 0, 0, 1, 0)
  | 1 => (0, 1, 0, 2, 0)
  | 2 => (0, 2, 0, 3, 0)
  | 6 => (26, 0, 0, 7, 0)
  | 7 => (25, 0, 0, 8, 0)
  | 8 => (5, 4, 0, 10, 0)
  | 10 => (0, 2, 0, 11, 0)
  | 11 => (6, 0, 0, 12, 1)
  | 12 => (8, 0, 0, 13, 0)
  | 13 => (3, 6, 0, 15, 0)
  | 15 => (0, 6, 0, 17, 0)
  | 17 => (0, 3, 0, 18, 0)
  | 18 => (43, 43, 0, 21, 0)
  | 21 => (2, 4, 0, 23, 0)
  | 23 => (6, 0, 0, 25, 8)
  | 25 => (24, 0, 0, 26, 0)
  | 26 => (1, 0, 0, 27, 0)
  | 27 => (0, 1, 0, 28, 0)
  | 28 => (0, 6, 0, 30, 0)
  | 33 => (25, 0, 0, 34, 0)
  | 34 => (20, 0, 0, 35, 0)
  | 35 => (5, 4, 0, 37, 0)
  | 37 => (7, 6, 0, 40, 1)
  | 40 => (33, 15, 0, 43, 0)
  | 43 => (2, 4, 0, 45, 0)
  | 45 => (54, 0, 0, 46, 0)
  | _ => (99, 0, 0, 0, 0)
def tX3_signed (pc : Nat) : zI := if pc < 46 then tmX3_signed pc else (99, 0, 0, 0, 0)
theorem tkX3_signed : z_tab RX3 wsX3_signed 7 (some .long) cX3_signed 46 tX3_signed := z_tab_of (tm := tmX3_signed) (by decide +kernel)
theorem sX3_signed_0 (lv : zL) (st : List Value) (w : zW) (nx K : Nat → zL → List Value → zW → Prop) (Rt : Option Value → zW → Prop) : z_st1 (tX3_signed 0) 0 lv st w nx K Rt = (z_la lv 0 (fun x => nx 1 lv (.ref x :: st) w)) := id rfl
theorem sX3_signed_1 (lv : zL) (st : List Value) (w : zW) (nx K : Nat → zL → List Value → zW → Prop) (Rt : Option Value → zW → Prop) : z_st1 (tX3_signed 1) 1 lv st w nx K Rt = (z_li lv 1 (fun x => nx 2 lv (.int x :: st) w)) := id rfl
theorem sX3_signed_2 (lv : zL) (st : List Value) (w : zW) (nx K : Nat → zL → List Value → zW → Prop) (Rt : Option Value → zW → Prop) : z_st1 (tX3_signed 2) 2 lv st w nx K Rt = (z_li lv 2 (fun x => nx 3 lv (.int x :: st) w)) := id rfl
theorem sX3_signed_6 (lv : zL) (st : List Value) (w : zW) (nx K : Nat → zL → List Value → zW → Prop) (Rt : Option Value → zW → Prop) : z_st1 (tX3_signed 6) 6 lv st w nx K Rt = (z_1i st (fun x r => nx 7 lv (.int x.toInt8.toInt32 :: r) w)) := id rfl
theorem sX3_signed_7 (lv : zL) (st : List Value) (w : zW) (nx K : Nat → zL → List Value → zW → Prop) (Rt : Option Value → zW → Prop) : z_st1 (tX3_signed 7) 7 lv st w nx K Rt = (z_1i st (fun x r => nx 8 lv (.long x.toInt64 :: r) w)) := id rfl
theorem sX3_signed_8 (lv : zL) (st : List Value) (w : zW) (nx K : Nat → zL → List Value → zW → Prop) (Rt : Option Value → zW → Prop) : z_st1 (tX3_signed 8) 8 lv st w nx K Rt = (z_1l st (fun x r => z_ok1 lv 4 = true ∧ nx 10 ((lv.set 4 (some (.long x))).set (4 + 1) none) r w)) := id rfl
theorem sX3_signed_10 (lv : zL) (st : List Value) (w : zW) (nx K : Nat → zL → List Value → zW → Prop) (Rt : Option Value → zW → Prop) : z_st1 (tX3_signed 10) 10 lv st w nx K Rt = (z_li lv 2 (fun x => nx 11 lv (.int x :: st) w)) := id rfl
theorem sX3_signed_11 (lv : zL) (st : List Value) (w : zW) (nx K : Nat → zL → List Value → zW → Prop) (Rt : Option Value → zW → Prop) : z_st1 (tX3_signed 11) 11 lv st w nx K Rt = (nx 12 lv (.int (1 : Int32) :: st) w) := id rfl
theorem sX3_signed_12 (lv : zL) (st : List Value) (w : zW) (nx K : Nat → zL → List Value → zW → Prop) (Rt : Option Value → zW → Prop) : z_st1 (tX3_signed 12) 12 lv st w nx K Rt = (z_2i st (fun x y r => nx 13 lv (.int (x + y) :: r) w)) := id rfl
theorem sX3_signed_13 (lv : zL) (st : List Value) (w : zW) (nx K : Nat → zL → List Value → zW → Prop) (Rt : Option Value → zW → Prop) : z_st1 (tX3_signed 13) 13 lv st w nx K Rt = (z_1i st (fun x r => z_ok1 lv 6 = true ∧ nx 15 (lv.set 6 (some (.int x))) r w)) := id rfl
theorem sX3_signed_15 (lv : zL) (st : List Value) (w : zW) (nx K : Nat → zL → List Value → zW → Prop) (Rt : Option Value → zW → Prop) : z_st1 (tX3_signed 15) 15 lv st w nx K Rt = (z_li lv 6 (fun x => nx 17 lv (.int x :: st) w)) := id rfl
theorem sX3_signed_17 (lv : zL) (st : List Value) (w : zW) (nx K : Nat → zL → List Value → zW → Prop) (Rt : Option Value → zW → Prop) : z_st1 (tX3_signed 17) 17 lv st w nx K Rt = (z_li lv 3 (fun x => nx 18 lv (.int x :: st) w)) := id rfl
theorem sX3_signed_18 (lv : zL) (st : List Value) (w : zW) (nx K : Nat → zL → List Value → zW → Prop) (Rt : Option Value → zW → Prop) : z_st1 (tX3_signed 18) 18 lv st w nx K Rt = (z_2i st (fun x y r => (y ≤ x → nx 43 lv r w) ∧ (¬ y ≤ x → nx 21 lv r w))) := id rfl
theorem sX3_signed_21 (lv : zL) (st : List Value) (w : zW) (nx K : Nat → zL → List Value → zW → Prop) (Rt : Option Value → zW → Prop) : z_st1 (tX3_signed 21) 21 lv st w nx K Rt = (z_ll lv 4 (fun x => nx 23 lv (.long x :: st) w)) := id rfl
theorem sX3_signed_23 (lv : zL) (st : List Value) (w : zW) (nx K : Nat → zL → List Value → zW → Prop) (Rt : Option Value → zW → Prop) : z_st1 (tX3_signed 23) 23 lv st w nx K Rt = (nx 25 lv (.int (8 : Int32) :: st) w) := id rfl
theorem sX3_signed_25 (lv : zL) (st : List Value) (w : zW) (nx K : Nat → zL → List Value → zW → Prop) (Rt : Option Value → zW → Prop) : z_st1 (tX3_signed 25) 25 lv st w nx K Rt = (z_lsi st (fun x y r => nx 26 lv (.long (x <<< (y.toInt64 &&& 63)) :: r) w)) := id rfl
theorem sX3_signed_26 (lv : zL) (st : List Value) (w : zW) (nx K : Nat → zL → List Value → zW → Prop) (Rt : Option Value → zW → Prop) : z_st1 (tX3_signed 26) 26 lv st w nx K Rt = (z_la lv 0 (fun x => nx 27 lv (.ref x :: st) w)) := id rfl
theorem sX3_signed_27 (lv : zL) (st : List Value) (w : zW) (nx K : Nat → zL → List Value → zW → Prop) (Rt : Option Value → zW → Prop) : z_st1 (tX3_signed 27) 27 lv st w nx K Rt = (z_li lv 1 (fun x => nx 28 lv (.int x :: st) w)) := id rfl
theorem sX3_signed_28 (lv : zL) (st : List Value) (w : zW) (nx K : Nat → zL → List Value → zW → Prop) (Rt : Option Value → zW → Prop) : z_st1 (tX3_signed 28) 28 lv st w nx K Rt = (z_li lv 6 (fun x => nx 30 lv (.int x :: st) w)) := id rfl
theorem sX3_signed_33 (lv : zL) (st : List Value) (w : zW) (nx K : Nat → zL → List Value → zW → Prop) (Rt : Option Value → zW → Prop) : z_st1 (tX3_signed 33) 33 lv st w nx K Rt = (z_1i st (fun x r => nx 34 lv (.long x.toInt64 :: r) w)) := id rfl
theorem sX3_signed_34 (lv : zL) (st : List Value) (w : zW) (nx K : Nat → zL → List Value → zW → Prop) (Rt : Option Value → zW → Prop) : z_st1 (tX3_signed 34) 34 lv st w nx K Rt = (z_2l st (fun x y r => nx 35 lv (.long (x ||| y) :: r) w)) := id rfl
theorem sX3_signed_35 (lv : zL) (st : List Value) (w : zW) (nx K : Nat → zL → List Value → zW → Prop) (Rt : Option Value → zW → Prop) : z_st1 (tX3_signed 35) 35 lv st w nx K Rt = (z_1l st (fun x r => z_ok1 lv 4 = true ∧ nx 37 ((lv.set 4 (some (.long x))).set (4 + 1) none) r w)) := id rfl
theorem sX3_signed_37 (lv : zL) (st : List Value) (w : zW) (nx K : Nat → zL → List Value → zW → Prop) (Rt : Option Value → zW → Prop) : z_st1 (tX3_signed 37) 37 lv st w nx K Rt = (z_li lv 6 (fun x => z_ok1 lv 6 = true ∧ nx 40 (lv.set 6 (some (.int (x + (1 : Int32))))) st w)) := id rfl
theorem sX3_signed_40 (lv : zL) (st : List Value) (w : zW) (nx K : Nat → zL → List Value → zW → Prop) (Rt : Option Value → zW → Prop) : z_st1 (tX3_signed 40) 40 lv st w nx K Rt = (nx 15 lv st w) := id rfl
theorem sX3_signed_43 (lv : zL) (st : List Value) (w : zW) (nx K : Nat → zL → List Value → zW → Prop) (Rt : Option Value → zW → Prop) : z_st1 (tX3_signed 43) 43 lv st w nx K Rt = (z_ll lv 4 (fun x => nx 45 lv (.long x :: st) w)) := id rfl
theorem sX3_signed_45 (lv : zL) (st : List Value) (w : zW) (nx K : Nat → zL → List Value → zW → Prop) (Rt : Option Value → zW → Prop) : z_st1 (tX3_signed 45) 45 lv st w nx K Rt = (z_e2 st (fun x => Rt (some (.long x)) w)) := id rfl
theorem sX3_signed_3 (lv : zL) (st : List Value) (w : zW) (nx K : Nat → zL → List Value → zW → Prop) (Rt : Option Value → zW → Prop) : z_st1 (tX3_signed 3) 3 lv st w nx K Rt = K 3 lv st w := id rfl
theorem sX3_signed_30 (lv : zL) (st : List Value) (w : zW) (nx K : Nat → zL → List Value → zW → Prop) (Rt : Option Value → zW → Prop) : z_st1 (tX3_signed 30) 30 lv st w nx K Rt = K 30 lv st w := id rfl
theorem dX3_signed_3 : decode cX3_signed 3 = .ok (.invokevirtual 51, 3) := by decide +kernel
theorem dX3_signed_30 : decode cX3_signed 30 = .ok (.invokevirtual 51, 3) := by decide +kernel

def tmX3_digits (pc : Nat) : zI := match pc with
  | 0 => (57, 0, 0, 1, 0)
  | 1 => (5, 4, 0, 3, 0)
  | 3 => (0, 2, 0, 4, 0)
  | 4 => (3, 6, 0, 6, 0)
  | 6 => (0, 6, 0, 8, 0)
  | 8 => (0, 3, 0, 9, 0)
  | 9 => (43, 41, 0, 12, 0)
  | 12 => (2, 4, 0, 14, 0)
  | 14 => (57, 0, 0, 17, 10)
  | 17 => (18, 0, 0, 18, 0)
  | 18 => (1, 0, 0, 19, 0)
  | 19 => (0, 1, 0, 20, 0)
  | 20 => (0, 6, 0, 22, 0)
  | 25 => (6, 0, 0, 27, 15)
  | 27 => (11, 0, 0, 28, 0)
  | 28 => (6, 0, 0, 30, 10)
  | 30 => (16, 0, 0, 31, 0)
  | 31 => (25, 0, 0, 32, 0)
  | 32 => (17, 0, 0, 33, 0)
  | 33 => (5, 4, 0, 35, 0)
  | 35 => (7, 6, 0, 38, 1)
  | 38 => (33, 6, 0, 41, 0)
  | 41 => (1, 0, 0, 42, 0)
  | 42 => (0, 1, 0, 43, 0)
  | 43 => (0, 3, 0, 44, 0)
  | 44 => (6, 0, 0, 45, 1)
  | 45 => (9, 0, 0, 46, 0)
  | 49 => (6, 0, 0, 51, 64)
  | 51 => (11, 0, 0, 52, 0)
  | 52 => (34, 61, 0, 55, 0)
  | 55 => (2, 4, 0, 57, 0)
  | 57 => (19, 0, 0, 58, 0)
  | 58 => (33, 63, 0, 61, 0)
  | 61 => (2, 4, 0, 63, 0)
  | 63 => (54, 0, 0, 64, 0)
  | _ => (99, 0, 0, 0, 0)
def tX3_digits (pc : Nat) : zI := if pc < 64 then tmX3_digits pc else (99, 0, 0, 0, 0)
theorem tkX3_digits : z_tab RX3 wsX3_digits 7 (some .long) cX3_digits 64 tX3_digits := z_tab_of (tm := tmX3_digits) (by decide +kernel)
theorem sX3_digits_0 (lv : zL) (st : List Value) (w : zW) (nx K : Nat → zL → List Value → zW → Prop) (Rt : Option Value → zW → Prop) : z_st1 (tX3_digits 0) 0 lv st w nx K Rt = (nx 1 lv (.long (0 : Int32).toInt64 :: st) w) := id rfl
theorem sX3_digits_1 (lv : zL) (st : List Value) (w : zW) (nx K : Nat → zL → List Value → zW → Prop) (Rt : Option Value → zW → Prop) : z_st1 (tX3_digits 1) 1 lv st w nx K Rt = (z_1l st (fun x r => z_ok1 lv 4 = true ∧ nx 3 ((lv.set 4 (some (.long x))).set (4 + 1) none) r w)) := id rfl
theorem sX3_digits_3 (lv : zL) (st : List Value) (w : zW) (nx K : Nat → zL → List Value → zW → Prop) (Rt : Option Value → zW → Prop) : z_st1 (tX3_digits 3) 3 lv st w nx K Rt = (z_li lv 2 (fun x => nx 4 lv (.int x :: st) w)) := id rfl
theorem sX3_digits_4 (lv : zL) (st : List Value) (w : zW) (nx K : Nat → zL → List Value → zW → Prop) (Rt : Option Value → zW → Prop) : z_st1 (tX3_digits 4) 4 lv st w nx K Rt = (z_1i st (fun x r => z_ok1 lv 6 = true ∧ nx 6 (lv.set 6 (some (.int x))) r w)) := id rfl
theorem sX3_digits_6 (lv : zL) (st : List Value) (w : zW) (nx K : Nat → zL → List Value → zW → Prop) (Rt : Option Value → zW → Prop) : z_st1 (tX3_digits 6) 6 lv st w nx K Rt = (z_li lv 6 (fun x => nx 8 lv (.int x :: st) w)) := id rfl
theorem sX3_digits_8 (lv : zL) (st : List Value) (w : zW) (nx K : Nat → zL → List Value → zW → Prop) (Rt : Option Value → zW → Prop) : z_st1 (tX3_digits 8) 8 lv st w nx K Rt = (z_li lv 3 (fun x => nx 9 lv (.int x :: st) w)) := id rfl
theorem sX3_digits_9 (lv : zL) (st : List Value) (w : zW) (nx K : Nat → zL → List Value → zW → Prop) (Rt : Option Value → zW → Prop) : z_st1 (tX3_digits 9) 9 lv st w nx K Rt = (z_2i st (fun x y r => (y ≤ x → nx 41 lv r w) ∧ (¬ y ≤ x → nx 12 lv r w))) := id rfl
theorem sX3_digits_12 (lv : zL) (st : List Value) (w : zW) (nx K : Nat → zL → List Value → zW → Prop) (Rt : Option Value → zW → Prop) : z_st1 (tX3_digits 12) 12 lv st w nx K Rt = (z_ll lv 4 (fun x => nx 14 lv (.long x :: st) w)) := id rfl
theorem sX3_digits_14 (lv : zL) (st : List Value) (w : zW) (nx K : Nat → zL → List Value → zW → Prop) (Rt : Option Value → zW → Prop) : z_st1 (tX3_digits 14) 14 lv st w nx K Rt = (nx 17 lv (.long (10 : Int32).toInt64 :: st) w) := id rfl
theorem sX3_digits_17 (lv : zL) (st : List Value) (w : zW) (nx K : Nat → zL → List Value → zW → Prop) (Rt : Option Value → zW → Prop) : z_st1 (tX3_digits 17) 17 lv st w nx K Rt = (z_2l st (fun x y r => nx 18 lv (.long (x * y) :: r) w)) := id rfl
theorem sX3_digits_18 (lv : zL) (st : List Value) (w : zW) (nx K : Nat → zL → List Value → zW → Prop) (Rt : Option Value → zW → Prop) : z_st1 (tX3_digits 18) 18 lv st w nx K Rt = (z_la lv 0 (fun x => nx 19 lv (.ref x :: st) w)) := id rfl
theorem sX3_digits_19 (lv : zL) (st : List Value) (w : zW) (nx K : Nat → zL → List Value → zW → Prop) (Rt : Option Value → zW → Prop) : z_st1 (tX3_digits 19) 19 lv st w nx K Rt = (z_li lv 1 (fun x => nx 20 lv (.int x :: st) w)) := id rfl
theorem sX3_digits_20 (lv : zL) (st : List Value) (w : zW) (nx K : Nat → zL → List Value → zW → Prop) (Rt : Option Value → zW → Prop) : z_st1 (tX3_digits 20) 20 lv st w nx K Rt = (z_li lv 6 (fun x => nx 22 lv (.int x :: st) w)) := id rfl
theorem sX3_digits_25 (lv : zL) (st : List Value) (w : zW) (nx K : Nat → zL → List Value → zW → Prop) (Rt : Option Value → zW → Prop) : z_st1 (tX3_digits 25) 25 lv st w nx K Rt = (nx 27 lv (.int (15 : Int32) :: st) w) := id rfl
theorem sX3_digits_27 (lv : zL) (st : List Value) (w : zW) (nx K : Nat → zL → List Value → zW → Prop) (Rt : Option Value → zW → Prop) : z_st1 (tX3_digits 27) 27 lv st w nx K Rt = (z_2i st (fun x y r => nx 28 lv (.int (x &&& y) :: r) w)) := id rfl
theorem sX3_digits_28 (lv : zL) (st : List Value) (w : zW) (nx K : Nat → zL → List Value → zW → Prop) (Rt : Option Value → zW → Prop) : z_st1 (tX3_digits 28) 28 lv st w nx K Rt = (nx 30 lv (.int (10 : Int32) :: st) w) := id rfl
theorem sX3_digits_30 (lv : zL) (st : List Value) (w : zW) (nx K : Nat → zL → List Value → zW → Prop) (Rt : Option Value → zW → Prop) : z_st1 (tX3_digits 30) 30 lv st w nx K Rt = (z_2i st (fun x y r => ¬ y = 0 ∧ nx 31 lv (.int (x - x / y * y) :: r) w)) := id rfl
theorem sX3_digits_31 (lv : zL) (st : List Value) (w : zW) (nx K : Nat → zL → List Value → zW → Prop) (Rt : Option Value → zW → Prop) : z_st1 (tX3_digits 31) 31 lv st w nx K Rt = (z_1i st (fun x r => nx 32 lv (.long x.toInt64 :: r) w)) := id rfl
theorem sX3_digits_32 (lv : zL) (st : List Value) (w : zW) (nx K : Nat → zL → List Value → zW → Prop) (Rt : Option Value → zW → Prop) : z_st1 (tX3_digits 32) 32 lv st w nx K Rt = (z_2l st (fun x y r => nx 33 lv (.long (x + y) :: r) w)) := id rfl
theorem sX3_digits_33 (lv : zL) (st : List Value) (w : zW) (nx K : Nat → zL → List Value → zW → Prop) (Rt : Option Value → zW → Prop) : z_st1 (tX3_digits 33) 33 lv st w nx K Rt = (z_1l st (fun x r => z_ok1 lv 4 = true ∧ nx 35 ((lv.set 4 (some (.long x))).set (4 + 1) none) r w)) := id rfl
theorem sX3_digits_35 (lv : zL) (st : List Value) (w : zW) (nx K : Nat → zL → List Value → zW → Prop) (Rt : Option Value → zW → Prop) : z_st1 (tX3_digits 35) 35 lv st w nx K Rt = (z_li lv 6 (fun x => z_ok1 lv 6 = true ∧ nx 38 (lv.set 6 (some (.int (x + (1 : Int32))))) st w)) := id rfl
theorem sX3_digits_38 (lv : zL) (st : List Value) (w : zW) (nx K : Nat → zL → List Value → zW → Prop) (Rt : Option Value → zW → Prop) : z_st1 (tX3_digits 38) 38 lv st w nx K Rt = (nx 6 lv st w) := id rfl
theorem sX3_digits_41 (lv : zL) (st : List Value) (w : zW) (nx K : Nat → zL → List Value → zW → Prop) (Rt : Option Value → zW → Prop) : z_st1 (tX3_digits 41) 41 lv st w nx K Rt = (z_la lv 0 (fun x => nx 42 lv (.ref x :: st) w)) := id rfl
theorem sX3_digits_42 (lv : zL) (st : List Value) (w : zW) (nx K : Nat → zL → List Value → zW → Prop) (Rt : Option Value → zW → Prop) : z_st1 (tX3_digits 42) 42 lv st w nx K Rt = (z_li lv 1 (fun x => nx 43 lv (.int x :: st) w)) := id rfl
theorem sX3_digits_43 (lv : zL) (st : List Value) (w : zW) (nx K : Nat → zL → List Value → zW → Prop) (Rt : Option Value → zW → Prop) : z_st1 (tX3_digits 43) 43 lv st w nx K Rt = (z_li lv 3 (fun x => nx 44 lv (.int x :: st) w)) := id rfl
theorem sX3_digits_44 (lv : zL) (st : List Value) (w : zW) (nx K : Nat → zL → List Value → zW → Prop) (Rt : Option Value → zW → Prop) : z_st1 (tX3_digits 44) 44 lv st w nx K Rt = (nx 45 lv (.int (1 : Int32) :: st) w) := id rfl
theorem sX3_digits_45 (lv : zL) (st : List Value) (w : zW) (nx K : Nat → zL → List Value → zW → Prop) (Rt : Option Value → zW → Prop) : z_st1 (tX3_digits 45) 45 lv st w nx K Rt = (z_2i st (fun x y r => nx 46 lv (.int (x - y) :: r) w)) := id rfl
theorem sX3_digits_49 (lv : zL) (st : List Value) (w : zW) (nx K : Nat → zL → List Value → zW → Prop) (Rt : Option Value → zW → Prop) : z_st1 (tX3_digits 49) 49 lv st w nx K Rt = (nx 51 lv (.int (64 : Int32) :: st) w) := id rfl
theorem sX3_digits_51 (lv : zL) (st : List Value) (w : zW) (nx K : Nat → zL → List Value → zW → Prop) (Rt : Option Value → zW → Prop) : z_st1 (tX3_digits 51) 51 lv st w nx K Rt = (z_2i st (fun x y r => nx 52 lv (.int (x &&& y) :: r) w)) := id rfl
theorem sX3_digits_52 (lv : zL) (st : List Value) (w : zW) (nx K : Nat → zL → List Value → zW → Prop) (Rt : Option Value → zW → Prop) : z_st1 (tX3_digits 52) 52 lv st w nx K Rt = (z_1i st (fun x r => (x = 0 → nx 61 lv r w) ∧ (¬ x = 0 → nx 55 lv r w))) := id rfl
theorem sX3_digits_55 (lv : zL) (st : List Value) (w : zW) (nx K : Nat → zL → List Value → zW → Prop) (Rt : Option Value → zW → Prop) : z_st1 (tX3_digits 55) 55 lv st w nx K Rt = (z_ll lv 4 (fun x => nx 57 lv (.long x :: st) w)) := id rfl
theorem sX3_digits_57 (lv : zL) (st : List Value) (w : zW) (nx K : Nat → zL → List Value → zW → Prop) (Rt : Option Value → zW → Prop) : z_st1 (tX3_digits 57) 57 lv st w nx K Rt = (z_1l st (fun x r => nx 58 lv (.long (-x) :: r) w)) := id rfl
theorem sX3_digits_58 (lv : zL) (st : List Value) (w : zW) (nx K : Nat → zL → List Value → zW → Prop) (Rt : Option Value → zW → Prop) : z_st1 (tX3_digits 58) 58 lv st w nx K Rt = (nx 63 lv st w) := id rfl
theorem sX3_digits_61 (lv : zL) (st : List Value) (w : zW) (nx K : Nat → zL → List Value → zW → Prop) (Rt : Option Value → zW → Prop) : z_st1 (tX3_digits 61) 61 lv st w nx K Rt = (z_ll lv 4 (fun x => nx 63 lv (.long x :: st) w)) := id rfl
theorem sX3_digits_63 (lv : zL) (st : List Value) (w : zW) (nx K : Nat → zL → List Value → zW → Prop) (Rt : Option Value → zW → Prop) : z_st1 (tX3_digits 63) 63 lv st w nx K Rt = (z_e2 st (fun x => Rt (some (.long x)) w)) := id rfl
theorem sX3_digits_22 (lv : zL) (st : List Value) (w : zW) (nx K : Nat → zL → List Value → zW → Prop) (Rt : Option Value → zW → Prop) : z_st1 (tX3_digits 22) 22 lv st w nx K Rt = K 22 lv st w := id rfl
theorem sX3_digits_46 (lv : zL) (st : List Value) (w : zW) (nx K : Nat → zL → List Value → zW → Prop) (Rt : Option Value → zW → Prop) : z_st1 (tX3_digits 46) 46 lv st w nx K Rt = K 46 lv st w := id rfl
theorem dX3_digits_22 : decode cX3_digits 22 = .ok (.invokevirtual 51, 3) := by decide +kernel
theorem dX3_digits_46 : decode cX3_digits 46 = .ok (.invokevirtual 51, 3) := by decide +kernel

def tmX4_init (pc : Nat) : zI := match pc with
  | 0 => (1, 0, 0, 1, 0)
  | 4 => (1, 0, 0, 5, 0)
  | 5 => (6, 0, 0, 8, 1600)
  | 13 => (1, 0, 0, 14, 0)
  | 14 => (6, 0, 0, 17, 1600)
  | 22 => (1, 0, 0, 23, 0)
  | 23 => (6, 0, 0, 26, 1601)
  | 31 => (1, 0, 0, 32, 0)
  | 32 => (6, 0, 0, 34, 16)
  | 39 => (1, 0, 0, 40, 0)
  | 40 => (1, 1, 0, 41, 0)
  | 44 => (1, 0, 0, 45, 0)
  | 45 => (1, 2, 0, 46, 0)
  | 49 => (55, 0, 0, 50, 0)
  | _ => (99, 0, 0, 0, 0)
def tX4_init (pc : Nat) : zI := if pc < 50 then tmX4_init pc else (99, 0, 0, 0, 0)
theorem tkX4_init : z_tab RX4 wsX4_init 3 none cX4_init 50 tX4_init := z_tab_of (tm := tmX4_init) (by decide +kernel)
theorem sX4_init_0 (lv : zL) (st : List Value) (w : zW) (nx K : Nat → zL → List Value → zW → Prop) (Rt : Option Value → zW → Prop) : z_st1 (tX4_init 0) 0 lv st w nx K Rt = (z_la lv 0 (fun x => nx 1 lv (.ref x :: st) w)) := id rfl
theorem sX4_init_4 (lv : zL) (st : List Value) (w : zW) (nx K : Nat → zL → List Value → zW → Prop) (Rt : Option Value → zW → Prop) : z_st1 (tX4_init 4) 4 lv st w nx K Rt = (z_la lv 0 (fun x => nx 5 lv (.ref x :: st) w)) := id rfl
theorem sX4_init_5 (lv : zL) (st : List Value) (w : zW) (nx K : Nat → zL → List Value → zW → Prop) (Rt : Option Value → zW → Prop) : z_st1 (tX4_init 5) 5 lv st w nx K Rt = (nx 8 lv (.int (1600 : Int32) :: st) w) := id rfl
theorem sX4_init_13 (lv : zL) (st : List Value) (w : zW) (nx K : Nat → zL → List Value → zW → Prop) (Rt : Option Value → zW → Prop) : z_st1 (tX4_init 13) 13 lv st w nx K Rt = (z_la lv 0 (fun x => nx 14 lv (.ref x :: st) w)) := id rfl
theorem sX4_init_14 (lv : zL) (st : List Value) (w : zW) (nx K : Nat → zL → List Value → zW → Prop) (Rt : Option Value → zW → Prop) : z_st1 (tX4_init 14) 14 lv st w nx K Rt = (nx 17 lv (.int (1600 : Int32) :: st) w) := id rfl
theorem sX4_init_22 (lv : zL) (st : List Value) (w : zW) (nx K : Nat → zL → List Value → zW → Prop) (Rt : Option Value → zW → Prop) : z_st1 (tX4_init 22) 22 lv st w nx K Rt = (z_la lv 0 (fun x => nx 23 lv (.ref x :: st) w)) := id rfl
theorem sX4_init_23 (lv : zL) (st : List Value) (w : zW) (nx K : Nat → zL → List Value → zW → Prop) (Rt : Option Value → zW → Prop) : z_st1 (tX4_init 23) 23 lv st w nx K Rt = (nx 26 lv (.int (1601 : Int32) :: st) w) := id rfl
theorem sX4_init_31 (lv : zL) (st : List Value) (w : zW) (nx K : Nat → zL → List Value → zW → Prop) (Rt : Option Value → zW → Prop) : z_st1 (tX4_init 31) 31 lv st w nx K Rt = (z_la lv 0 (fun x => nx 32 lv (.ref x :: st) w)) := id rfl
theorem sX4_init_32 (lv : zL) (st : List Value) (w : zW) (nx K : Nat → zL → List Value → zW → Prop) (Rt : Option Value → zW → Prop) : z_st1 (tX4_init 32) 32 lv st w nx K Rt = (nx 34 lv (.int (16 : Int32) :: st) w) := id rfl
theorem sX4_init_39 (lv : zL) (st : List Value) (w : zW) (nx K : Nat → zL → List Value → zW → Prop) (Rt : Option Value → zW → Prop) : z_st1 (tX4_init 39) 39 lv st w nx K Rt = (z_la lv 0 (fun x => nx 40 lv (.ref x :: st) w)) := id rfl
theorem sX4_init_40 (lv : zL) (st : List Value) (w : zW) (nx K : Nat → zL → List Value → zW → Prop) (Rt : Option Value → zW → Prop) : z_st1 (tX4_init 40) 40 lv st w nx K Rt = (z_la lv 1 (fun x => nx 41 lv (.ref x :: st) w)) := id rfl
theorem sX4_init_44 (lv : zL) (st : List Value) (w : zW) (nx K : Nat → zL → List Value → zW → Prop) (Rt : Option Value → zW → Prop) : z_st1 (tX4_init 44) 44 lv st w nx K Rt = (z_la lv 0 (fun x => nx 45 lv (.ref x :: st) w)) := id rfl
theorem sX4_init_45 (lv : zL) (st : List Value) (w : zW) (nx K : Nat → zL → List Value → zW → Prop) (Rt : Option Value → zW → Prop) : z_st1 (tX4_init 45) 45 lv st w nx K Rt = (z_la lv 2 (fun x => nx 46 lv (.ref x :: st) w)) := id rfl
theorem sX4_init_49 (lv : zL) (st : List Value) (w : zW) (nx K : Nat → zL → List Value → zW → Prop) (Rt : Option Value → zW → Prop) : z_st1 (tX4_init 49) 49 lv st w nx K Rt = (z_e0 st (Rt none w)) := id rfl
theorem sX4_init_1 (lv : zL) (st : List Value) (w : zW) (nx K : Nat → zL → List Value → zW → Prop) (Rt : Option Value → zW → Prop) : z_st1 (tX4_init 1) 1 lv st w nx K Rt = K 1 lv st w := id rfl
theorem sX4_init_8 (lv : zL) (st : List Value) (w : zW) (nx K : Nat → zL → List Value → zW → Prop) (Rt : Option Value → zW → Prop) : z_st1 (tX4_init 8) 8 lv st w nx K Rt = K 8 lv st w := id rfl
theorem sX4_init_10 (lv : zL) (st : List Value) (w : zW) (nx K : Nat → zL → List Value → zW → Prop) (Rt : Option Value → zW → Prop) : z_st1 (tX4_init 10) 10 lv st w nx K Rt = K 10 lv st w := id rfl
theorem sX4_init_17 (lv : zL) (st : List Value) (w : zW) (nx K : Nat → zL → List Value → zW → Prop) (Rt : Option Value → zW → Prop) : z_st1 (tX4_init 17) 17 lv st w nx K Rt = K 17 lv st w := id rfl
theorem sX4_init_19 (lv : zL) (st : List Value) (w : zW) (nx K : Nat → zL → List Value → zW → Prop) (Rt : Option Value → zW → Prop) : z_st1 (tX4_init 19) 19 lv st w nx K Rt = K 19 lv st w := id rfl
theorem sX4_init_26 (lv : zL) (st : List Value) (w : zW) (nx K : Nat → zL → List Value → zW → Prop) (Rt : Option Value → zW → Prop) : z_st1 (tX4_init 26) 26 lv st w nx K Rt = K 26 lv st w := id rfl
theorem sX4_init_28 (lv : zL) (st : List Value) (w : zW) (nx K : Nat → zL → List Value → zW → Prop) (Rt : Option Value → zW → Prop) : z_st1 (tX4_init 28) 28 lv st w nx K Rt = K 28 lv st w := id rfl
theorem sX4_init_34 (lv : zL) (st : List Value) (w : zW) (nx K : Nat → zL → List Value → zW → Prop) (Rt : Option Value → zW → Prop) : z_st1 (tX4_init 34) 34 lv st w nx K Rt = K 34 lv st w := id rfl
theorem sX4_init_36 (lv : zL) (st : List Value) (w : zW) (nx K : Nat → zL → List Value → zW → Prop) (Rt : Option Value → zW → Prop) : z_st1 (tX4_init 36) 36 lv st w nx K Rt = K 36 lv st w := id rfl
theorem sX4_init_41 (lv : zL) (st : List Value) (w : zW) (nx K : Nat → zL → List Value → zW → Prop) (Rt : Option Value → zW → Prop) : z_st1 (tX4_init 41) 41 lv st w nx K Rt = K 41 lv st w := id rfl
theorem sX4_init_46 (lv : zL) (st : List Value) (w : zW) (nx K : Nat → zL → List Value → zW → Prop) (Rt : Option Value → zW → Prop) : z_st1 (tX4_init 46) 46 lv st w nx K Rt = K 46 lv st w := id rfl
theorem dX4_init_1 : decode cX4_init 1 = .ok (.invokespecial 3, 3) := by decide +kernel
theorem dX4_init_8 : decode cX4_init 8 = .ok (.newarray .int, 2) := by decide +kernel
theorem dX4_init_10 : decode cX4_init 10 = .ok (.putfield 9, 3) := by decide +kernel
theorem dX4_init_17 : decode cX4_init 17 = .ok (.newarray .int, 2) := by decide +kernel
theorem dX4_init_19 : decode cX4_init 19 = .ok (.putfield 15, 3) := by decide +kernel
theorem dX4_init_26 : decode cX4_init 26 = .ok (.newarray .int, 2) := by decide +kernel
theorem dX4_init_28 : decode cX4_init 28 = .ok (.putfield 18, 3) := by decide +kernel
theorem dX4_init_34 : decode cX4_init 34 = .ok (.newarray .int, 2) := by decide +kernel
theorem dX4_init_36 : decode cX4_init 36 = .ok (.putfield 21, 3) := by decide +kernel
theorem dX4_init_41 : decode cX4_init 41 = .ok (.putfield 24, 3) := by decide +kernel
theorem dX4_init_46 : decode cX4_init 46 = .ok (.putfield 28, 3) := by decide +kernel

def tmX4_held (pc : Nat) : zI := match pc with
  | 0 => (1, 0, 0, 1, 0)
  | 1 => (46, 5, 6, 4, 0)
  | 4 => (53, 0, 0, 5, 0)
  | _ => (99, 0, 0, 0, 0)
def tX4_held (pc : Nat) : zI := if pc < 5 then tmX4_held pc else (99, 0, 0, 0, 0)
theorem tkX4_held : z_tab RX4 wsX4_held 1 (some .int) cX4_held 5 tX4_held := z_tab_of (tm := tmX4_held) (by decide +kernel)
theorem sX4_held_0 (lv : zL) (st : List Value) (w : zW) (nx K : Nat → zL → List Value → zW → Prop) (Rt : Option Value → zW → Prop) : z_st1 (tX4_held 0) 0 lv st w nx K Rt = (z_la lv 0 (fun x => nx 1 lv (.ref x :: st) w)) := id rfl
theorem sX4_held_1 (lv : zL) (st : List Value) (w : zW) (nx K : Nat → zL → List Value → zW → Prop) (Rt : Option Value → zW → Prop) : z_st1 (tX4_held 1) 1 lv st w nx K Rt = (z_1a st (fun x r => z_ob w x 5 (fun fs => z_fl fs 6 (fun u => nx 4 lv (u :: r) w)))) := id rfl
theorem sX4_held_4 (lv : zL) (st : List Value) (w : zW) (nx K : Nat → zL → List Value → zW → Prop) (Rt : Option Value → zW → Prop) : z_st1 (tX4_held 4) 4 lv st w nx K Rt = (z_e1 st (fun x => Rt (some (.int x)) w)) := id rfl

def tmX4_clear (pc : Nat) : zI := match pc with
  | 0 => (1, 0, 0, 1, 0)
  | 1 => (6, 0, 0, 2, 0)
  | 2 => (47, 5, 6, 5, 0)
  | 5 => (1, 0, 0, 6, 0)
  | 6 => (6, 0, 0, 7, 0)
  | 7 => (47, 5, 7, 10, 0)
  | 10 => (55, 0, 0, 11, 0)
  | _ => (99, 0, 0, 0, 0)
def tX4_clear (pc : Nat) : zI := if pc < 11 then tmX4_clear pc else (99, 0, 0, 0, 0)
theorem tkX4_clear : z_tab RX4 wsX4_clear 1 none cX4_clear 11 tX4_clear := z_tab_of (tm := tmX4_clear) (by decide +kernel)
theorem sX4_clear_0 (lv : zL) (st : List Value) (w : zW) (nx K : Nat → zL → List Value → zW → Prop) (Rt : Option Value → zW → Prop) : z_st1 (tX4_clear 0) 0 lv st w nx K Rt = (z_la lv 0 (fun x => nx 1 lv (.ref x :: st) w)) := id rfl
theorem sX4_clear_1 (lv : zL) (st : List Value) (w : zW) (nx K : Nat → zL → List Value → zW → Prop) (Rt : Option Value → zW → Prop) : z_st1 (tX4_clear 1) 1 lv st w nx K Rt = (nx 2 lv (.int (0 : Int32) :: st) w) := id rfl
theorem sX4_clear_2 (lv : zL) (st : List Value) (w : zW) (nx K : Nat → zL → List Value → zW → Prop) (Rt : Option Value → zW → Prop) : z_st1 (tX4_clear 2) 2 lv st w nx K Rt = (z_ia st (fun x i r => z_ob w x 5 (fun fs => 6 < fs.length ∧ nx 5 lv r (z_up w x (.inr (5, fs.set 6 (.int i))))))) := id rfl
theorem sX4_clear_5 (lv : zL) (st : List Value) (w : zW) (nx K : Nat → zL → List Value → zW → Prop) (Rt : Option Value → zW → Prop) : z_st1 (tX4_clear 5) 5 lv st w nx K Rt = (z_la lv 0 (fun x => nx 6 lv (.ref x :: st) w)) := id rfl
theorem sX4_clear_6 (lv : zL) (st : List Value) (w : zW) (nx K : Nat → zL → List Value → zW → Prop) (Rt : Option Value → zW → Prop) : z_st1 (tX4_clear 6) 6 lv st w nx K Rt = (nx 7 lv (.int (0 : Int32) :: st) w) := id rfl
theorem sX4_clear_7 (lv : zL) (st : List Value) (w : zW) (nx K : Nat → zL → List Value → zW → Prop) (Rt : Option Value → zW → Prop) : z_st1 (tX4_clear 7) 7 lv st w nx K Rt = (z_ia st (fun x i r => z_ob w x 5 (fun fs => 7 < fs.length ∧ nx 10 lv r (z_up w x (.inr (5, fs.set 7 (.int i))))))) := id rfl
theorem sX4_clear_10 (lv : zL) (st : List Value) (w : zW) (nx K : Nat → zL → List Value → zW → Prop) (Rt : Option Value → zW → Prop) : z_st1 (tX4_clear 10) 10 lv st w nx K Rt = (z_e0 st (Rt none w)) := id rfl

def tmX4_append (pc : Nat) : zI := match pc with
  | 0 => (1, 0, 0, 1, 0)
  | 1 => (46, 5, 6, 4, 0)
  | 4 => (6, 0, 0, 7, 1600)
  | 7 => (43, 30, 0, 10, 0)
  | 10 => (1, 0, 0, 11, 0)
  | 11 => (46, 5, 2, 14, 0)
  | 14 => (1, 0, 0, 15, 0)
  | 15 => (46, 5, 6, 18, 0)
  | 18 => (0, 1, 0, 19, 0)
  | 19 => (49, 0, 0, 20, 0)
  | 20 => (1, 0, 0, 21, 0)
  | 21 => (29, 0, 0, 22, 0)
  | 22 => (46, 5, 6, 25, 0)
  | 25 => (6, 0, 0, 26, 1)
  | 26 => (8, 0, 0, 27, 0)
  | 27 => (47, 5, 6, 30, 0)
  | 30 => (55, 0, 0, 31, 0)
  | _ => (99, 0, 0, 0, 0)
def tX4_append (pc : Nat) : zI := if pc < 31 then tmX4_append pc else (99, 0, 0, 0, 0)
theorem tkX4_append : z_tab RX4 wsX4_append 2 none cX4_append 31 tX4_append := z_tab_of (tm := tmX4_append) (by decide +kernel)
theorem sX4_append_0 (lv : zL) (st : List Value) (w : zW) (nx K : Nat → zL → List Value → zW → Prop) (Rt : Option Value → zW → Prop) : z_st1 (tX4_append 0) 0 lv st w nx K Rt = (z_la lv 0 (fun x => nx 1 lv (.ref x :: st) w)) := id rfl
theorem sX4_append_1 (lv : zL) (st : List Value) (w : zW) (nx K : Nat → zL → List Value → zW → Prop) (Rt : Option Value → zW → Prop) : z_st1 (tX4_append 1) 1 lv st w nx K Rt = (z_1a st (fun x r => z_ob w x 5 (fun fs => z_fl fs 6 (fun u => nx 4 lv (u :: r) w)))) := id rfl
theorem sX4_append_4 (lv : zL) (st : List Value) (w : zW) (nx K : Nat → zL → List Value → zW → Prop) (Rt : Option Value → zW → Prop) : z_st1 (tX4_append 4) 4 lv st w nx K Rt = (nx 7 lv (.int (1600 : Int32) :: st) w) := id rfl
theorem sX4_append_7 (lv : zL) (st : List Value) (w : zW) (nx K : Nat → zL → List Value → zW → Prop) (Rt : Option Value → zW → Prop) : z_st1 (tX4_append 7) 7 lv st w nx K Rt = (z_2i st (fun x y r => (y ≤ x → nx 30 lv r w) ∧ (¬ y ≤ x → nx 10 lv r w))) := id rfl
theorem sX4_append_10 (lv : zL) (st : List Value) (w : zW) (nx K : Nat → zL → List Value → zW → Prop) (Rt : Option Value → zW → Prop) : z_st1 (tX4_append 10) 10 lv st w nx K Rt = (z_la lv 0 (fun x => nx 11 lv (.ref x :: st) w)) := id rfl
theorem sX4_append_11 (lv : zL) (st : List Value) (w : zW) (nx K : Nat → zL → List Value → zW → Prop) (Rt : Option Value → zW → Prop) : z_st1 (tX4_append 11) 11 lv st w nx K Rt = (z_1a st (fun x r => z_ob w x 5 (fun fs => z_fl fs 2 (fun u => nx 14 lv (u :: r) w)))) := id rfl
theorem sX4_append_14 (lv : zL) (st : List Value) (w : zW) (nx K : Nat → zL → List Value → zW → Prop) (Rt : Option Value → zW → Prop) : z_st1 (tX4_append 14) 14 lv st w nx K Rt = (z_la lv 0 (fun x => nx 15 lv (.ref x :: st) w)) := id rfl
theorem sX4_append_15 (lv : zL) (st : List Value) (w : zW) (nx K : Nat → zL → List Value → zW → Prop) (Rt : Option Value → zW → Prop) : z_st1 (tX4_append 15) 15 lv st w nx K Rt = (z_1a st (fun x r => z_ob w x 5 (fun fs => z_fl fs 6 (fun u => nx 18 lv (u :: r) w)))) := id rfl
theorem sX4_append_18 (lv : zL) (st : List Value) (w : zW) (nx K : Nat → zL → List Value → zW → Prop) (Rt : Option Value → zW → Prop) : z_st1 (tX4_append 18) 18 lv st w nx K Rt = (z_li lv 1 (fun x => nx 19 lv (.int x :: st) w)) := id rfl
theorem sX4_append_19 (lv : zL) (st : List Value) (w : zW) (nx K : Nat → zL → List Value → zW → Prop) (Rt : Option Value → zW → Prop) : z_st1 (tX4_append 19) 19 lv st w nx K Rt = (z_iia st (fun x i u r => z_ar0 w x (fun m g => vp_in i m ∧ nx 20 lv r (z_up w x (.inl (0, m, .inl (upd g i.toNatClampNeg u))))))) := id rfl
theorem sX4_append_20 (lv : zL) (st : List Value) (w : zW) (nx K : Nat → zL → List Value → zW → Prop) (Rt : Option Value → zW → Prop) : z_st1 (tX4_append 20) 20 lv st w nx K Rt = (z_la lv 0 (fun x => nx 21 lv (.ref x :: st) w)) := id rfl
theorem sX4_append_21 (lv : zL) (st : List Value) (w : zW) (nx K : Nat → zL → List Value → zW → Prop) (Rt : Option Value → zW → Prop) : z_st1 (tX4_append 21) 21 lv st w nx K Rt = (z_d1 st (fun x r => nx 22 lv (x :: x :: r) w)) := id rfl
theorem sX4_append_22 (lv : zL) (st : List Value) (w : zW) (nx K : Nat → zL → List Value → zW → Prop) (Rt : Option Value → zW → Prop) : z_st1 (tX4_append 22) 22 lv st w nx K Rt = (z_1a st (fun x r => z_ob w x 5 (fun fs => z_fl fs 6 (fun u => nx 25 lv (u :: r) w)))) := id rfl
theorem sX4_append_25 (lv : zL) (st : List Value) (w : zW) (nx K : Nat → zL → List Value → zW → Prop) (Rt : Option Value → zW → Prop) : z_st1 (tX4_append 25) 25 lv st w nx K Rt = (nx 26 lv (.int (1 : Int32) :: st) w) := id rfl
theorem sX4_append_26 (lv : zL) (st : List Value) (w : zW) (nx K : Nat → zL → List Value → zW → Prop) (Rt : Option Value → zW → Prop) : z_st1 (tX4_append 26) 26 lv st w nx K Rt = (z_2i st (fun x y r => nx 27 lv (.int (x + y) :: r) w)) := id rfl
theorem sX4_append_27 (lv : zL) (st : List Value) (w : zW) (nx K : Nat → zL → List Value → zW → Prop) (Rt : Option Value → zW → Prop) : z_st1 (tX4_append 27) 27 lv st w nx K Rt = (z_ia st (fun x i r => z_ob w x 5 (fun fs => 6 < fs.length ∧ nx 30 lv r (z_up w x (.inr (5, fs.set 6 (.int i))))))) := id rfl
theorem sX4_append_30 (lv : zL) (st : List Value) (w : zW) (nx K : Nat → zL → List Value → zW → Prop) (Rt : Option Value → zW → Prop) : z_st1 (tX4_append 30) 30 lv st w nx K Rt = (z_e0 st (Rt none w)) := id rfl

def tmX4_at (pc : Nat) : zI := match pc with
  | 0 => (0, 1, 0, 1, 0)
  | 1 => (36, 12, 0, 4, 0)
  | 4 => (0, 1, 0, 5, 0)
  | 5 => (1, 0, 0, 6, 0)
  | 6 => (46, 5, 6, 9, 0)
  | 9 => (42, 16, 0, 12, 0)
  | 12 => (6, 0, 0, 13, (-1))
  | 13 => (33, 22, 0, 16, 0)
  | 16 => (1, 0, 0, 17, 0)
  | 17 => (46, 5, 2, 20, 0)
  | 20 => (0, 1, 0, 21, 0)
  | 21 => (48, 0, 0, 22, 0)
  | 22 => (53, 0, 0, 23, 0)
  | _ => (99, 0, 0, 0, 0)
def tX4_at (pc : Nat) : zI := if pc < 23 then tmX4_at pc else (99, 0, 0, 0, 0)
theorem tkX4_at : z_tab RX4 wsX4_at 2 (some .int) cX4_at 23 tX4_at := z_tab_of (tm := tmX4_at) (by decide +kernel)
theorem sX4_at_0 (lv : zL) (st : List Value) (w : zW) (nx K : Nat → zL → List Value → zW → Prop) (Rt : Option Value → zW → Prop) : z_st1 (tX4_at 0) 0 lv st w nx K Rt = (z_li lv 1 (fun x => nx 1 lv (.int x :: st) w)) := id rfl
theorem sX4_at_1 (lv : zL) (st : List Value) (w : zW) (nx K : Nat → zL → List Value → zW → Prop) (Rt : Option Value → zW → Prop) : z_st1 (tX4_at 1) 1 lv st w nx K Rt = (z_1i st (fun x r => (x < 0 → nx 12 lv r w) ∧ (¬ x < 0 → nx 4 lv r w))) := id rfl
theorem sX4_at_4 (lv : zL) (st : List Value) (w : zW) (nx K : Nat → zL → List Value → zW → Prop) (Rt : Option Value → zW → Prop) : z_st1 (tX4_at 4) 4 lv st w nx K Rt = (z_li lv 1 (fun x => nx 5 lv (.int x :: st) w)) := id rfl
theorem sX4_at_5 (lv : zL) (st : List Value) (w : zW) (nx K : Nat → zL → List Value → zW → Prop) (Rt : Option Value → zW → Prop) : z_st1 (tX4_at 5) 5 lv st w nx K Rt = (z_la lv 0 (fun x => nx 6 lv (.ref x :: st) w)) := id rfl
theorem sX4_at_6 (lv : zL) (st : List Value) (w : zW) (nx K : Nat → zL → List Value → zW → Prop) (Rt : Option Value → zW → Prop) : z_st1 (tX4_at 6) 6 lv st w nx K Rt = (z_1a st (fun x r => z_ob w x 5 (fun fs => z_fl fs 6 (fun u => nx 9 lv (u :: r) w)))) := id rfl
theorem sX4_at_9 (lv : zL) (st : List Value) (w : zW) (nx K : Nat → zL → List Value → zW → Prop) (Rt : Option Value → zW → Prop) : z_st1 (tX4_at 9) 9 lv st w nx K Rt = (z_2i st (fun x y r => (x < y → nx 16 lv r w) ∧ (¬ x < y → nx 12 lv r w))) := id rfl
theorem sX4_at_12 (lv : zL) (st : List Value) (w : zW) (nx K : Nat → zL → List Value → zW → Prop) (Rt : Option Value → zW → Prop) : z_st1 (tX4_at 12) 12 lv st w nx K Rt = (nx 13 lv (.int (-1 : Int32) :: st) w) := id rfl
theorem sX4_at_13 (lv : zL) (st : List Value) (w : zW) (nx K : Nat → zL → List Value → zW → Prop) (Rt : Option Value → zW → Prop) : z_st1 (tX4_at 13) 13 lv st w nx K Rt = (nx 22 lv st w) := id rfl
theorem sX4_at_16 (lv : zL) (st : List Value) (w : zW) (nx K : Nat → zL → List Value → zW → Prop) (Rt : Option Value → zW → Prop) : z_st1 (tX4_at 16) 16 lv st w nx K Rt = (z_la lv 0 (fun x => nx 17 lv (.ref x :: st) w)) := id rfl
theorem sX4_at_17 (lv : zL) (st : List Value) (w : zW) (nx K : Nat → zL → List Value → zW → Prop) (Rt : Option Value → zW → Prop) : z_st1 (tX4_at 17) 17 lv st w nx K Rt = (z_1a st (fun x r => z_ob w x 5 (fun fs => z_fl fs 2 (fun u => nx 20 lv (u :: r) w)))) := id rfl
theorem sX4_at_20 (lv : zL) (st : List Value) (w : zW) (nx K : Nat → zL → List Value → zW → Prop) (Rt : Option Value → zW → Prop) : z_st1 (tX4_at 20) 20 lv st w nx K Rt = (z_li lv 1 (fun x => nx 21 lv (.int x :: st) w)) := id rfl
theorem sX4_at_21 (lv : zL) (st : List Value) (w : zW) (nx K : Nat → zL → List Value → zW → Prop) (Rt : Option Value → zW → Prop) : z_st1 (tX4_at 21) 21 lv st w nx K Rt = (z_ia st (fun x i r => z_ar0 w x (fun m g => vp_in i m ∧ nx 22 lv (.int (g i.toNatClampNeg) :: r) w))) := id rfl
theorem sX4_at_22 (lv : zL) (st : List Value) (w : zW) (nx K : Nat → zL → List Value → zW → Prop) (Rt : Option Value → zW → Prop) : z_st1 (tX4_at 22) 22 lv st w nx K Rt = (z_e1 st (fun x => Rt (some (.int x)) w)) := id rfl

def tmX4_put (pc : Nat) : zI := match pc with
  | 0 => (0, 1, 0, 1, 0)
  | 1 => (36, 19, 0, 4, 0)
  | 4 => (0, 1, 0, 5, 0)
  | 5 => (1, 0, 0, 6, 0)
  | 6 => (46, 5, 6, 9, 0)
  | 9 => (43, 19, 0, 12, 0)
  | 12 => (1, 0, 0, 13, 0)
  | 13 => (46, 5, 2, 16, 0)
  | 16 => (0, 1, 0, 17, 0)
  | 17 => (0, 2, 0, 18, 0)
  | 18 => (49, 0, 0, 19, 0)
  | 19 => (55, 0, 0, 20, 0)
  | _ => (99, 0, 0, 0, 0)
def tX4_put (pc : Nat) : zI := if pc < 20 then tmX4_put pc else (99, 0, 0, 0, 0)
theorem tkX4_put : z_tab RX4 wsX4_put 3 none cX4_put 20 tX4_put := z_tab_of (tm := tmX4_put) (by decide +kernel)
theorem sX4_put_0 (lv : zL) (st : List Value) (w : zW) (nx K : Nat → zL → List Value → zW → Prop) (Rt : Option Value → zW → Prop) : z_st1 (tX4_put 0) 0 lv st w nx K Rt = (z_li lv 1 (fun x => nx 1 lv (.int x :: st) w)) := id rfl
theorem sX4_put_1 (lv : zL) (st : List Value) (w : zW) (nx K : Nat → zL → List Value → zW → Prop) (Rt : Option Value → zW → Prop) : z_st1 (tX4_put 1) 1 lv st w nx K Rt = (z_1i st (fun x r => (x < 0 → nx 19 lv r w) ∧ (¬ x < 0 → nx 4 lv r w))) := id rfl
theorem sX4_put_4 (lv : zL) (st : List Value) (w : zW) (nx K : Nat → zL → List Value → zW → Prop) (Rt : Option Value → zW → Prop) : z_st1 (tX4_put 4) 4 lv st w nx K Rt = (z_li lv 1 (fun x => nx 5 lv (.int x :: st) w)) := id rfl
theorem sX4_put_5 (lv : zL) (st : List Value) (w : zW) (nx K : Nat → zL → List Value → zW → Prop) (Rt : Option Value → zW → Prop) : z_st1 (tX4_put 5) 5 lv st w nx K Rt = (z_la lv 0 (fun x => nx 6 lv (.ref x :: st) w)) := id rfl
theorem sX4_put_6 (lv : zL) (st : List Value) (w : zW) (nx K : Nat → zL → List Value → zW → Prop) (Rt : Option Value → zW → Prop) : z_st1 (tX4_put 6) 6 lv st w nx K Rt = (z_1a st (fun x r => z_ob w x 5 (fun fs => z_fl fs 6 (fun u => nx 9 lv (u :: r) w)))) := id rfl
theorem sX4_put_9 (lv : zL) (st : List Value) (w : zW) (nx K : Nat → zL → List Value → zW → Prop) (Rt : Option Value → zW → Prop) : z_st1 (tX4_put 9) 9 lv st w nx K Rt = (z_2i st (fun x y r => (y ≤ x → nx 19 lv r w) ∧ (¬ y ≤ x → nx 12 lv r w))) := id rfl
theorem sX4_put_12 (lv : zL) (st : List Value) (w : zW) (nx K : Nat → zL → List Value → zW → Prop) (Rt : Option Value → zW → Prop) : z_st1 (tX4_put 12) 12 lv st w nx K Rt = (z_la lv 0 (fun x => nx 13 lv (.ref x :: st) w)) := id rfl
theorem sX4_put_13 (lv : zL) (st : List Value) (w : zW) (nx K : Nat → zL → List Value → zW → Prop) (Rt : Option Value → zW → Prop) : z_st1 (tX4_put 13) 13 lv st w nx K Rt = (z_1a st (fun x r => z_ob w x 5 (fun fs => z_fl fs 2 (fun u => nx 16 lv (u :: r) w)))) := id rfl
theorem sX4_put_16 (lv : zL) (st : List Value) (w : zW) (nx K : Nat → zL → List Value → zW → Prop) (Rt : Option Value → zW → Prop) : z_st1 (tX4_put 16) 16 lv st w nx K Rt = (z_li lv 1 (fun x => nx 17 lv (.int x :: st) w)) := id rfl
theorem sX4_put_17 (lv : zL) (st : List Value) (w : zW) (nx K : Nat → zL → List Value → zW → Prop) (Rt : Option Value → zW → Prop) : z_st1 (tX4_put 17) 17 lv st w nx K Rt = (z_li lv 2 (fun x => nx 18 lv (.int x :: st) w)) := id rfl
theorem sX4_put_18 (lv : zL) (st : List Value) (w : zW) (nx K : Nat → zL → List Value → zW → Prop) (Rt : Option Value → zW → Prop) : z_st1 (tX4_put 18) 18 lv st w nx K Rt = (z_iia st (fun x i u r => z_ar0 w x (fun m g => vp_in i m ∧ nx 19 lv r (z_up w x (.inl (0, m, .inl (upd g i.toNatClampNeg u))))))) := id rfl
theorem sX4_put_19 (lv : zL) (st : List Value) (w : zW) (nx K : Nat → zL → List Value → zW → Prop) (Rt : Option Value → zW → Prop) : z_st1 (tX4_put 19) 19 lv st w nx K Rt = (z_e0 st (Rt none w)) := id rfl

def tmX4_cut (pc : Nat) : zI := match pc with
  | 0 => (1, 0, 0, 1, 0)
  | 1 => (1, 0, 0, 2, 0)
  | 2 => (46, 5, 6, 5, 0)
  | 5 => (0, 1, 0, 6, 0)
  | 6 => (6, 0, 0, 7, 0)
  | 13 => (47, 5, 6, 16, 0)
  | 16 => (55, 0, 0, 17, 0)
  | _ => (99, 0, 0, 0, 0)
def tX4_cut (pc : Nat) : zI := if pc < 17 then tmX4_cut pc else (99, 0, 0, 0, 0)
theorem tkX4_cut : z_tab RX4 wsX4_cut 2 none cX4_cut 17 tX4_cut := z_tab_of (tm := tmX4_cut) (by decide +kernel)
theorem sX4_cut_0 (lv : zL) (st : List Value) (w : zW) (nx K : Nat → zL → List Value → zW → Prop) (Rt : Option Value → zW → Prop) : z_st1 (tX4_cut 0) 0 lv st w nx K Rt = (z_la lv 0 (fun x => nx 1 lv (.ref x :: st) w)) := id rfl
theorem sX4_cut_1 (lv : zL) (st : List Value) (w : zW) (nx K : Nat → zL → List Value → zW → Prop) (Rt : Option Value → zW → Prop) : z_st1 (tX4_cut 1) 1 lv st w nx K Rt = (z_la lv 0 (fun x => nx 2 lv (.ref x :: st) w)) := id rfl
theorem sX4_cut_2 (lv : zL) (st : List Value) (w : zW) (nx K : Nat → zL → List Value → zW → Prop) (Rt : Option Value → zW → Prop) : z_st1 (tX4_cut 2) 2 lv st w nx K Rt = (z_1a st (fun x r => z_ob w x 5 (fun fs => z_fl fs 6 (fun u => nx 5 lv (u :: r) w)))) := id rfl
theorem sX4_cut_5 (lv : zL) (st : List Value) (w : zW) (nx K : Nat → zL → List Value → zW → Prop) (Rt : Option Value → zW → Prop) : z_st1 (tX4_cut 5) 5 lv st w nx K Rt = (z_li lv 1 (fun x => nx 6 lv (.int x :: st) w)) := id rfl
theorem sX4_cut_6 (lv : zL) (st : List Value) (w : zW) (nx K : Nat → zL → List Value → zW → Prop) (Rt : Option Value → zW → Prop) : z_st1 (tX4_cut 6) 6 lv st w nx K Rt = (nx 7 lv (.int (0 : Int32) :: st) w) := id rfl
theorem sX4_cut_13 (lv : zL) (st : List Value) (w : zW) (nx K : Nat → zL → List Value → zW → Prop) (Rt : Option Value → zW → Prop) : z_st1 (tX4_cut 13) 13 lv st w nx K Rt = (z_ia st (fun x i r => z_ob w x 5 (fun fs => 6 < fs.length ∧ nx 16 lv r (z_up w x (.inr (5, fs.set 6 (.int i))))))) := id rfl
theorem sX4_cut_16 (lv : zL) (st : List Value) (w : zW) (nx K : Nat → zL → List Value → zW → Prop) (Rt : Option Value → zW → Prop) : z_st1 (tX4_cut 16) 16 lv st w nx K Rt = (z_e0 st (Rt none w)) := id rfl
theorem sX4_cut_7 (lv : zL) (st : List Value) (w : zW) (nx K : Nat → zL → List Value → zW → Prop) (Rt : Option Value → zW → Prop) : z_st1 (tX4_cut 7) 7 lv st w nx K Rt = K 7 lv st w := id rfl
theorem sX4_cut_10 (lv : zL) (st : List Value) (w : zW) (nx K : Nat → zL → List Value → zW → Prop) (Rt : Option Value → zW → Prop) : z_st1 (tX4_cut 10) 10 lv st w nx K Rt = K 10 lv st w := id rfl
theorem dX4_cut_7 : decode cX4_cut 7 = .ok (.invokestatic 39, 3) := by decide +kernel
theorem dX4_cut_10 : decode cX4_cut 10 = .ok (.invokestatic 45, 3) := by decide +kernel

def tmX4_orderBy (pc : Nat) : zI := match pc with
  | 0 => (1, 0, 0, 1, 0)
  | 1 => (0, 1, 0, 2, 0)
  | 2 => (62, 5, 8, 5, 0)
  | 5 => (55, 0, 0, 6, 0)
  | _ => (99, 0, 0, 0, 0)
def tX4_orderBy (pc : Nat) : zI := if pc < 6 then tmX4_orderBy pc else (99, 0, 0, 0, 0)
theorem tkX4_orderBy : z_tab RX4 wsX4_orderBy 2 none cX4_orderBy 6 tX4_orderBy := z_tab_of (tm := tmX4_orderBy) (by decide +kernel)
theorem sX4_orderBy_0 (lv : zL) (st : List Value) (w : zW) (nx K : Nat → zL → List Value → zW → Prop) (Rt : Option Value → zW → Prop) : z_st1 (tX4_orderBy 0) 0 lv st w nx K Rt = (z_la lv 0 (fun x => nx 1 lv (.ref x :: st) w)) := id rfl
theorem sX4_orderBy_1 (lv : zL) (st : List Value) (w : zW) (nx K : Nat → zL → List Value → zW → Prop) (Rt : Option Value → zW → Prop) : z_st1 (tX4_orderBy 1) 1 lv st w nx K Rt = (z_li lv 1 (fun x => nx 2 lv (.int x :: st) w)) := id rfl
theorem sX4_orderBy_2 (lv : zL) (st : List Value) (w : zW) (nx K : Nat → zL → List Value → zW → Prop) (Rt : Option Value → zW → Prop) : z_st1 (tX4_orderBy 2) 2 lv st w nx K Rt = (z_ia st (fun x i r => z_ob w x 5 (fun fs => 8 < fs.length ∧ (i = 0 ∨ i = 1) ∧ nx 5 lv r (z_up w x (.inr (5, fs.set 8 (.int i))))))) := id rfl
theorem sX4_orderBy_5 (lv : zL) (st : List Value) (w : zW) (nx K : Nat → zL → List Value → zW → Prop) (Rt : Option Value → zW → Prop) : z_st1 (tX4_orderBy 5) 5 lv st w nx K Rt = (z_e0 st (Rt none w)) := id rfl

def tmX4_beginRun (pc : Nat) : zI := match pc with
  | 0 => (1, 0, 0, 1, 0)
  | 1 => (46, 5, 7, 4, 0)
  | 4 => (6, 0, 0, 7, 1600)
  | 7 => (43, 33, 0, 10, 0)
  | 10 => (1, 0, 0, 11, 0)
  | 11 => (46, 5, 4, 14, 0)
  | 14 => (1, 0, 0, 15, 0)
  | 15 => (46, 5, 7, 18, 0)
  | 18 => (1, 0, 0, 19, 0)
  | 19 => (46, 5, 6, 22, 0)
  | 22 => (49, 0, 0, 23, 0)
  | 23 => (1, 0, 0, 24, 0)
  | 24 => (29, 0, 0, 25, 0)
  | 25 => (46, 5, 7, 28, 0)
  | 28 => (6, 0, 0, 29, 1)
  | 29 => (8, 0, 0, 30, 0)
  | 30 => (47, 5, 7, 33, 0)
  | 33 => (55, 0, 0, 34, 0)
  | _ => (99, 0, 0, 0, 0)
def tX4_beginRun (pc : Nat) : zI := if pc < 34 then tmX4_beginRun pc else (99, 0, 0, 0, 0)
theorem tkX4_beginRun : z_tab RX4 wsX4_beginRun 1 none cX4_beginRun 34 tX4_beginRun := z_tab_of (tm := tmX4_beginRun) (by decide +kernel)
theorem sX4_beginRun_0 (lv : zL) (st : List Value) (w : zW) (nx K : Nat → zL → List Value → zW → Prop) (Rt : Option Value → zW → Prop) : z_st1 (tX4_beginRun 0) 0 lv st w nx K Rt = (z_la lv 0 (fun x => nx 1 lv (.ref x :: st) w)) := id rfl
theorem sX4_beginRun_1 (lv : zL) (st : List Value) (w : zW) (nx K : Nat → zL → List Value → zW → Prop) (Rt : Option Value → zW → Prop) : z_st1 (tX4_beginRun 1) 1 lv st w nx K Rt = (z_1a st (fun x r => z_ob w x 5 (fun fs => z_fl fs 7 (fun u => nx 4 lv (u :: r) w)))) := id rfl
theorem sX4_beginRun_4 (lv : zL) (st : List Value) (w : zW) (nx K : Nat → zL → List Value → zW → Prop) (Rt : Option Value → zW → Prop) : z_st1 (tX4_beginRun 4) 4 lv st w nx K Rt = (nx 7 lv (.int (1600 : Int32) :: st) w) := id rfl
theorem sX4_beginRun_7 (lv : zL) (st : List Value) (w : zW) (nx K : Nat → zL → List Value → zW → Prop) (Rt : Option Value → zW → Prop) : z_st1 (tX4_beginRun 7) 7 lv st w nx K Rt = (z_2i st (fun x y r => (y ≤ x → nx 33 lv r w) ∧ (¬ y ≤ x → nx 10 lv r w))) := id rfl
theorem sX4_beginRun_10 (lv : zL) (st : List Value) (w : zW) (nx K : Nat → zL → List Value → zW → Prop) (Rt : Option Value → zW → Prop) : z_st1 (tX4_beginRun 10) 10 lv st w nx K Rt = (z_la lv 0 (fun x => nx 11 lv (.ref x :: st) w)) := id rfl
theorem sX4_beginRun_11 (lv : zL) (st : List Value) (w : zW) (nx K : Nat → zL → List Value → zW → Prop) (Rt : Option Value → zW → Prop) : z_st1 (tX4_beginRun 11) 11 lv st w nx K Rt = (z_1a st (fun x r => z_ob w x 5 (fun fs => z_fl fs 4 (fun u => nx 14 lv (u :: r) w)))) := id rfl
theorem sX4_beginRun_14 (lv : zL) (st : List Value) (w : zW) (nx K : Nat → zL → List Value → zW → Prop) (Rt : Option Value → zW → Prop) : z_st1 (tX4_beginRun 14) 14 lv st w nx K Rt = (z_la lv 0 (fun x => nx 15 lv (.ref x :: st) w)) := id rfl
theorem sX4_beginRun_15 (lv : zL) (st : List Value) (w : zW) (nx K : Nat → zL → List Value → zW → Prop) (Rt : Option Value → zW → Prop) : z_st1 (tX4_beginRun 15) 15 lv st w nx K Rt = (z_1a st (fun x r => z_ob w x 5 (fun fs => z_fl fs 7 (fun u => nx 18 lv (u :: r) w)))) := id rfl
theorem sX4_beginRun_18 (lv : zL) (st : List Value) (w : zW) (nx K : Nat → zL → List Value → zW → Prop) (Rt : Option Value → zW → Prop) : z_st1 (tX4_beginRun 18) 18 lv st w nx K Rt = (z_la lv 0 (fun x => nx 19 lv (.ref x :: st) w)) := id rfl
theorem sX4_beginRun_19 (lv : zL) (st : List Value) (w : zW) (nx K : Nat → zL → List Value → zW → Prop) (Rt : Option Value → zW → Prop) : z_st1 (tX4_beginRun 19) 19 lv st w nx K Rt = (z_1a st (fun x r => z_ob w x 5 (fun fs => z_fl fs 6 (fun u => nx 22 lv (u :: r) w)))) := id rfl
theorem sX4_beginRun_22 (lv : zL) (st : List Value) (w : zW) (nx K : Nat → zL → List Value → zW → Prop) (Rt : Option Value → zW → Prop) : z_st1 (tX4_beginRun 22) 22 lv st w nx K Rt = (z_iia st (fun x i u r => z_ar0 w x (fun m g => vp_in i m ∧ nx 23 lv r (z_up w x (.inl (0, m, .inl (upd g i.toNatClampNeg u))))))) := id rfl
theorem sX4_beginRun_23 (lv : zL) (st : List Value) (w : zW) (nx K : Nat → zL → List Value → zW → Prop) (Rt : Option Value → zW → Prop) : z_st1 (tX4_beginRun 23) 23 lv st w nx K Rt = (z_la lv 0 (fun x => nx 24 lv (.ref x :: st) w)) := id rfl
theorem sX4_beginRun_24 (lv : zL) (st : List Value) (w : zW) (nx K : Nat → zL → List Value → zW → Prop) (Rt : Option Value → zW → Prop) : z_st1 (tX4_beginRun 24) 24 lv st w nx K Rt = (z_d1 st (fun x r => nx 25 lv (x :: x :: r) w)) := id rfl
theorem sX4_beginRun_25 (lv : zL) (st : List Value) (w : zW) (nx K : Nat → zL → List Value → zW → Prop) (Rt : Option Value → zW → Prop) : z_st1 (tX4_beginRun 25) 25 lv st w nx K Rt = (z_1a st (fun x r => z_ob w x 5 (fun fs => z_fl fs 7 (fun u => nx 28 lv (u :: r) w)))) := id rfl
theorem sX4_beginRun_28 (lv : zL) (st : List Value) (w : zW) (nx K : Nat → zL → List Value → zW → Prop) (Rt : Option Value → zW → Prop) : z_st1 (tX4_beginRun 28) 28 lv st w nx K Rt = (nx 29 lv (.int (1 : Int32) :: st) w) := id rfl
theorem sX4_beginRun_29 (lv : zL) (st : List Value) (w : zW) (nx K : Nat → zL → List Value → zW → Prop) (Rt : Option Value → zW → Prop) : z_st1 (tX4_beginRun 29) 29 lv st w nx K Rt = (z_2i st (fun x y r => nx 30 lv (.int (x + y) :: r) w)) := id rfl
theorem sX4_beginRun_30 (lv : zL) (st : List Value) (w : zW) (nx K : Nat → zL → List Value → zW → Prop) (Rt : Option Value → zW → Prop) : z_st1 (tX4_beginRun 30) 30 lv st w nx K Rt = (z_ia st (fun x i r => z_ob w x 5 (fun fs => 7 < fs.length ∧ nx 33 lv r (z_up w x (.inr (5, fs.set 7 (.int i))))))) := id rfl
theorem sX4_beginRun_33 (lv : zL) (st : List Value) (w : zW) (nx K : Nat → zL → List Value → zW → Prop) (Rt : Option Value → zW → Prop) : z_st1 (tX4_beginRun 33) 33 lv st w nx K Rt = (z_e0 st (Rt none w)) := id rfl

def tmX4_endRuns (pc : Nat) : zI := match pc with
  | 0 => (1, 0, 0, 1, 0)
  | 1 => (46, 5, 4, 4, 0)
  | 4 => (1, 0, 0, 5, 0)
  | 5 => (46, 5, 7, 8, 0)
  | 8 => (1, 0, 0, 9, 0)
  | 9 => (46, 5, 6, 12, 0)
  | 12 => (49, 0, 0, 13, 0)
  | 13 => (55, 0, 0, 14, 0)
  | _ => (99, 0, 0, 0, 0)
def tX4_endRuns (pc : Nat) : zI := if pc < 14 then tmX4_endRuns pc else (99, 0, 0, 0, 0)
theorem tkX4_endRuns : z_tab RX4 wsX4_endRuns 1 none cX4_endRuns 14 tX4_endRuns := z_tab_of (tm := tmX4_endRuns) (by decide +kernel)
theorem sX4_endRuns_0 (lv : zL) (st : List Value) (w : zW) (nx K : Nat → zL → List Value → zW → Prop) (Rt : Option Value → zW → Prop) : z_st1 (tX4_endRuns 0) 0 lv st w nx K Rt = (z_la lv 0 (fun x => nx 1 lv (.ref x :: st) w)) := id rfl
theorem sX4_endRuns_1 (lv : zL) (st : List Value) (w : zW) (nx K : Nat → zL → List Value → zW → Prop) (Rt : Option Value → zW → Prop) : z_st1 (tX4_endRuns 1) 1 lv st w nx K Rt = (z_1a st (fun x r => z_ob w x 5 (fun fs => z_fl fs 4 (fun u => nx 4 lv (u :: r) w)))) := id rfl
theorem sX4_endRuns_4 (lv : zL) (st : List Value) (w : zW) (nx K : Nat → zL → List Value → zW → Prop) (Rt : Option Value → zW → Prop) : z_st1 (tX4_endRuns 4) 4 lv st w nx K Rt = (z_la lv 0 (fun x => nx 5 lv (.ref x :: st) w)) := id rfl
theorem sX4_endRuns_5 (lv : zL) (st : List Value) (w : zW) (nx K : Nat → zL → List Value → zW → Prop) (Rt : Option Value → zW → Prop) : z_st1 (tX4_endRuns 5) 5 lv st w nx K Rt = (z_1a st (fun x r => z_ob w x 5 (fun fs => z_fl fs 7 (fun u => nx 8 lv (u :: r) w)))) := id rfl
theorem sX4_endRuns_8 (lv : zL) (st : List Value) (w : zW) (nx K : Nat → zL → List Value → zW → Prop) (Rt : Option Value → zW → Prop) : z_st1 (tX4_endRuns 8) 8 lv st w nx K Rt = (z_la lv 0 (fun x => nx 9 lv (.ref x :: st) w)) := id rfl
theorem sX4_endRuns_9 (lv : zL) (st : List Value) (w : zW) (nx K : Nat → zL → List Value → zW → Prop) (Rt : Option Value → zW → Prop) : z_st1 (tX4_endRuns 9) 9 lv st w nx K Rt = (z_1a st (fun x r => z_ob w x 5 (fun fs => z_fl fs 6 (fun u => nx 12 lv (u :: r) w)))) := id rfl
theorem sX4_endRuns_12 (lv : zL) (st : List Value) (w : zW) (nx K : Nat → zL → List Value → zW → Prop) (Rt : Option Value → zW → Prop) : z_st1 (tX4_endRuns 12) 12 lv st w nx K Rt = (z_iia st (fun x i u r => z_ar0 w x (fun m g => vp_in i m ∧ nx 13 lv r (z_up w x (.inl (0, m, .inl (upd g i.toNatClampNeg u))))))) := id rfl
theorem sX4_endRuns_13 (lv : zL) (st : List Value) (w : zW) (nx K : Nat → zL → List Value → zW → Prop) (Rt : Option Value → zW → Prop) : z_st1 (tX4_endRuns 13) 13 lv st w nx K Rt = (z_e0 st (Rt none w)) := id rfl

def tmX4_makeRuns (pc : Nat) : zI := match pc with
  | 0 => (0, 1, 0, 1, 0)
  | 1 => (6, 0, 0, 2, 1)
  | 5 => (3, 2, 0, 6, 0)
  | 6 => (1, 0, 0, 7, 0)
  | 7 => (6, 0, 0, 8, 0)
  | 8 => (47, 5, 7, 11, 0)
  | 11 => (6, 0, 0, 12, 0)
  | 12 => (3, 3, 0, 13, 0)
  | 13 => (0, 3, 0, 14, 0)
  | 14 => (1, 0, 0, 15, 0)
  | 15 => (46, 5, 6, 18, 0)
  | 18 => (43, 85, 0, 21, 0)
  | 21 => (1, 0, 0, 22, 0)
  | 22 => (46, 5, 4, 25, 0)
  | 25 => (1, 0, 0, 26, 0)
  | 26 => (46, 5, 7, 29, 0)
  | 29 => (0, 3, 0, 30, 0)
  | 30 => (49, 0, 0, 31, 0)
  | 31 => (1, 0, 0, 32, 0)
  | 32 => (29, 0, 0, 33, 0)
  | 33 => (46, 5, 7, 36, 0)
  | 36 => (6, 0, 0, 37, 1)
  | 37 => (8, 0, 0, 38, 0)
  | 38 => (47, 5, 7, 41, 0)
  | 41 => (0, 3, 0, 42, 0)
  | 42 => (0, 2, 0, 43, 0)
  | 43 => (8, 0, 0, 44, 0)
  | 44 => (1, 0, 0, 45, 0)
  | 45 => (46, 5, 6, 48, 0)
  | 51 => (3, 4, 0, 53, 0)
  | 53 => (0, 3, 0, 54, 0)
  | 54 => (6, 0, 0, 55, 1)
  | 55 => (8, 0, 0, 56, 0)
  | 56 => (3, 5, 0, 58, 0)
  | 58 => (0, 5, 0, 60, 0)
  | 60 => (0, 4, 0, 62, 0)
  | 62 => (43, 78, 0, 65, 0)
  | 65 => (1, 0, 0, 66, 0)
  | 66 => (0, 3, 0, 67, 0)
  | 67 => (0, 5, 0, 69, 0)
  | 72 => (7, 5, 0, 75, 1)
  | 75 => (33, 58, 0, 78, 0)
  | 78 => (0, 3, 0, 79, 0)
  | 79 => (0, 2, 0, 80, 0)
  | 80 => (8, 0, 0, 81, 0)
  | 81 => (3, 3, 0, 82, 0)
  | 82 => (33, 13, 0, 85, 0)
  | 85 => (1, 0, 0, 86, 0)
  | 89 => (1, 0, 0, 90, 0)
  | 90 => (46, 5, 7, 93, 0)
  | 93 => (53, 0, 0, 94, 0)
  | _ => (99, 0, 0, 0, 0)
def tX4_makeRuns (pc : Nat) : zI := if pc < 94 then tmX4_makeRuns pc else (99, 0, 0, 0, 0)
theorem tkX4_makeRuns : z_tab RX4 wsX4_makeRuns 6 (some .int) cX4_makeRuns 94 tX4_makeRuns := z_tab_of (tm := tmX4_makeRuns) (by decide +kernel)
theorem sX4_makeRuns_0 (lv : zL) (st : List Value) (w : zW) (nx K : Nat → zL → List Value → zW → Prop) (Rt : Option Value → zW → Prop) : z_st1 (tX4_makeRuns 0) 0 lv st w nx K Rt = (z_li lv 1 (fun x => nx 1 lv (.int x :: st) w)) := id rfl
theorem sX4_makeRuns_1 (lv : zL) (st : List Value) (w : zW) (nx K : Nat → zL → List Value → zW → Prop) (Rt : Option Value → zW → Prop) : z_st1 (tX4_makeRuns 1) 1 lv st w nx K Rt = (nx 2 lv (.int (1 : Int32) :: st) w) := id rfl
theorem sX4_makeRuns_5 (lv : zL) (st : List Value) (w : zW) (nx K : Nat → zL → List Value → zW → Prop) (Rt : Option Value → zW → Prop) : z_st1 (tX4_makeRuns 5) 5 lv st w nx K Rt = (z_1i st (fun x r => z_ok1 lv 2 = true ∧ nx 6 (lv.set 2 (some (.int x))) r w)) := id rfl
theorem sX4_makeRuns_6 (lv : zL) (st : List Value) (w : zW) (nx K : Nat → zL → List Value → zW → Prop) (Rt : Option Value → zW → Prop) : z_st1 (tX4_makeRuns 6) 6 lv st w nx K Rt = (z_la lv 0 (fun x => nx 7 lv (.ref x :: st) w)) := id rfl
theorem sX4_makeRuns_7 (lv : zL) (st : List Value) (w : zW) (nx K : Nat → zL → List Value → zW → Prop) (Rt : Option Value → zW → Prop) : z_st1 (tX4_makeRuns 7) 7 lv st w nx K Rt = (nx 8 lv (.int (0 : Int32) :: st) w) := id rfl
theorem sX4_makeRuns_8 (lv : zL) (st : List Value) (w : zW) (nx K : Nat → zL → List Value → zW → Prop) (Rt : Option Value → zW → Prop) : z_st1 (tX4_makeRuns 8) 8 lv st w nx K Rt = (z_ia st (fun x i r => z_ob w x 5 (fun fs => 7 < fs.length ∧ nx 11 lv r (z_up w x (.inr (5, fs.set 7 (.int i))))))) := id rfl
theorem sX4_makeRuns_11 (lv : zL) (st : List Value) (w : zW) (nx K : Nat → zL → List Value → zW → Prop) (Rt : Option Value → zW → Prop) : z_st1 (tX4_makeRuns 11) 11 lv st w nx K Rt = (nx 12 lv (.int (0 : Int32) :: st) w) := id rfl
theorem sX4_makeRuns_12 (lv : zL) (st : List Value) (w : zW) (nx K : Nat → zL → List Value → zW → Prop) (Rt : Option Value → zW → Prop) : z_st1 (tX4_makeRuns 12) 12 lv st w nx K Rt = (z_1i st (fun x r => z_ok1 lv 3 = true ∧ nx 13 (lv.set 3 (some (.int x))) r w)) := id rfl
theorem sX4_makeRuns_13 (lv : zL) (st : List Value) (w : zW) (nx K : Nat → zL → List Value → zW → Prop) (Rt : Option Value → zW → Prop) : z_st1 (tX4_makeRuns 13) 13 lv st w nx K Rt = (z_li lv 3 (fun x => nx 14 lv (.int x :: st) w)) := id rfl
theorem sX4_makeRuns_14 (lv : zL) (st : List Value) (w : zW) (nx K : Nat → zL → List Value → zW → Prop) (Rt : Option Value → zW → Prop) : z_st1 (tX4_makeRuns 14) 14 lv st w nx K Rt = (z_la lv 0 (fun x => nx 15 lv (.ref x :: st) w)) := id rfl
theorem sX4_makeRuns_15 (lv : zL) (st : List Value) (w : zW) (nx K : Nat → zL → List Value → zW → Prop) (Rt : Option Value → zW → Prop) : z_st1 (tX4_makeRuns 15) 15 lv st w nx K Rt = (z_1a st (fun x r => z_ob w x 5 (fun fs => z_fl fs 6 (fun u => nx 18 lv (u :: r) w)))) := id rfl
theorem sX4_makeRuns_18 (lv : zL) (st : List Value) (w : zW) (nx K : Nat → zL → List Value → zW → Prop) (Rt : Option Value → zW → Prop) : z_st1 (tX4_makeRuns 18) 18 lv st w nx K Rt = (z_2i st (fun x y r => (y ≤ x → nx 85 lv r w) ∧ (¬ y ≤ x → nx 21 lv r w))) := id rfl
theorem sX4_makeRuns_21 (lv : zL) (st : List Value) (w : zW) (nx K : Nat → zL → List Value → zW → Prop) (Rt : Option Value → zW → Prop) : z_st1 (tX4_makeRuns 21) 21 lv st w nx K Rt = (z_la lv 0 (fun x => nx 22 lv (.ref x :: st) w)) := id rfl
theorem sX4_makeRuns_22 (lv : zL) (st : List Value) (w : zW) (nx K : Nat → zL → List Value → zW → Prop) (Rt : Option Value → zW → Prop) : z_st1 (tX4_makeRuns 22) 22 lv st w nx K Rt = (z_1a st (fun x r => z_ob w x 5 (fun fs => z_fl fs 4 (fun u => nx 25 lv (u :: r) w)))) := id rfl
theorem sX4_makeRuns_25 (lv : zL) (st : List Value) (w : zW) (nx K : Nat → zL → List Value → zW → Prop) (Rt : Option Value → zW → Prop) : z_st1 (tX4_makeRuns 25) 25 lv st w nx K Rt = (z_la lv 0 (fun x => nx 26 lv (.ref x :: st) w)) := id rfl
theorem sX4_makeRuns_26 (lv : zL) (st : List Value) (w : zW) (nx K : Nat → zL → List Value → zW → Prop) (Rt : Option Value → zW → Prop) : z_st1 (tX4_makeRuns 26) 26 lv st w nx K Rt = (z_1a st (fun x r => z_ob w x 5 (fun fs => z_fl fs 7 (fun u => nx 29 lv (u :: r) w)))) := id rfl
theorem sX4_makeRuns_29 (lv : zL) (st : List Value) (w : zW) (nx K : Nat → zL → List Value → zW → Prop) (Rt : Option Value → zW → Prop) : z_st1 (tX4_makeRuns 29) 29 lv st w nx K Rt = (z_li lv 3 (fun x => nx 30 lv (.int x :: st) w)) := id rfl
theorem sX4_makeRuns_30 (lv : zL) (st : List Value) (w : zW) (nx K : Nat → zL → List Value → zW → Prop) (Rt : Option Value → zW → Prop) : z_st1 (tX4_makeRuns 30) 30 lv st w nx K Rt = (z_iia st (fun x i u r => z_ar0 w x (fun m g => vp_in i m ∧ nx 31 lv r (z_up w x (.inl (0, m, .inl (upd g i.toNatClampNeg u))))))) := id rfl
theorem sX4_makeRuns_31 (lv : zL) (st : List Value) (w : zW) (nx K : Nat → zL → List Value → zW → Prop) (Rt : Option Value → zW → Prop) : z_st1 (tX4_makeRuns 31) 31 lv st w nx K Rt = (z_la lv 0 (fun x => nx 32 lv (.ref x :: st) w)) := id rfl
theorem sX4_makeRuns_32 (lv : zL) (st : List Value) (w : zW) (nx K : Nat → zL → List Value → zW → Prop) (Rt : Option Value → zW → Prop) : z_st1 (tX4_makeRuns 32) 32 lv st w nx K Rt = (z_d1 st (fun x r => nx 33 lv (x :: x :: r) w)) := id rfl
theorem sX4_makeRuns_33 (lv : zL) (st : List Value) (w : zW) (nx K : Nat → zL → List Value → zW → Prop) (Rt : Option Value → zW → Prop) : z_st1 (tX4_makeRuns 33) 33 lv st w nx K Rt = (z_1a st (fun x r => z_ob w x 5 (fun fs => z_fl fs 7 (fun u => nx 36 lv (u :: r) w)))) := id rfl
theorem sX4_makeRuns_36 (lv : zL) (st : List Value) (w : zW) (nx K : Nat → zL → List Value → zW → Prop) (Rt : Option Value → zW → Prop) : z_st1 (tX4_makeRuns 36) 36 lv st w nx K Rt = (nx 37 lv (.int (1 : Int32) :: st) w) := id rfl
theorem sX4_makeRuns_37 (lv : zL) (st : List Value) (w : zW) (nx K : Nat → zL → List Value → zW → Prop) (Rt : Option Value → zW → Prop) : z_st1 (tX4_makeRuns 37) 37 lv st w nx K Rt = (z_2i st (fun x y r => nx 38 lv (.int (x + y) :: r) w)) := id rfl
theorem sX4_makeRuns_38 (lv : zL) (st : List Value) (w : zW) (nx K : Nat → zL → List Value → zW → Prop) (Rt : Option Value → zW → Prop) : z_st1 (tX4_makeRuns 38) 38 lv st w nx K Rt = (z_ia st (fun x i r => z_ob w x 5 (fun fs => 7 < fs.length ∧ nx 41 lv r (z_up w x (.inr (5, fs.set 7 (.int i))))))) := id rfl
theorem sX4_makeRuns_41 (lv : zL) (st : List Value) (w : zW) (nx K : Nat → zL → List Value → zW → Prop) (Rt : Option Value → zW → Prop) : z_st1 (tX4_makeRuns 41) 41 lv st w nx K Rt = (z_li lv 3 (fun x => nx 42 lv (.int x :: st) w)) := id rfl
theorem sX4_makeRuns_42 (lv : zL) (st : List Value) (w : zW) (nx K : Nat → zL → List Value → zW → Prop) (Rt : Option Value → zW → Prop) : z_st1 (tX4_makeRuns 42) 42 lv st w nx K Rt = (z_li lv 2 (fun x => nx 43 lv (.int x :: st) w)) := id rfl
theorem sX4_makeRuns_43 (lv : zL) (st : List Value) (w : zW) (nx K : Nat → zL → List Value → zW → Prop) (Rt : Option Value → zW → Prop) : z_st1 (tX4_makeRuns 43) 43 lv st w nx K Rt = (z_2i st (fun x y r => nx 44 lv (.int (x + y) :: r) w)) := id rfl
theorem sX4_makeRuns_44 (lv : zL) (st : List Value) (w : zW) (nx K : Nat → zL → List Value → zW → Prop) (Rt : Option Value → zW → Prop) : z_st1 (tX4_makeRuns 44) 44 lv st w nx K Rt = (z_la lv 0 (fun x => nx 45 lv (.ref x :: st) w)) := id rfl
theorem sX4_makeRuns_45 (lv : zL) (st : List Value) (w : zW) (nx K : Nat → zL → List Value → zW → Prop) (Rt : Option Value → zW → Prop) : z_st1 (tX4_makeRuns 45) 45 lv st w nx K Rt = (z_1a st (fun x r => z_ob w x 5 (fun fs => z_fl fs 6 (fun u => nx 48 lv (u :: r) w)))) := id rfl
theorem sX4_makeRuns_51 (lv : zL) (st : List Value) (w : zW) (nx K : Nat → zL → List Value → zW → Prop) (Rt : Option Value → zW → Prop) : z_st1 (tX4_makeRuns 51) 51 lv st w nx K Rt = (z_1i st (fun x r => z_ok1 lv 4 = true ∧ nx 53 (lv.set 4 (some (.int x))) r w)) := id rfl
theorem sX4_makeRuns_53 (lv : zL) (st : List Value) (w : zW) (nx K : Nat → zL → List Value → zW → Prop) (Rt : Option Value → zW → Prop) : z_st1 (tX4_makeRuns 53) 53 lv st w nx K Rt = (z_li lv 3 (fun x => nx 54 lv (.int x :: st) w)) := id rfl
theorem sX4_makeRuns_54 (lv : zL) (st : List Value) (w : zW) (nx K : Nat → zL → List Value → zW → Prop) (Rt : Option Value → zW → Prop) : z_st1 (tX4_makeRuns 54) 54 lv st w nx K Rt = (nx 55 lv (.int (1 : Int32) :: st) w) := id rfl
theorem sX4_makeRuns_55 (lv : zL) (st : List Value) (w : zW) (nx K : Nat → zL → List Value → zW → Prop) (Rt : Option Value → zW → Prop) : z_st1 (tX4_makeRuns 55) 55 lv st w nx K Rt = (z_2i st (fun x y r => nx 56 lv (.int (x + y) :: r) w)) := id rfl
theorem sX4_makeRuns_56 (lv : zL) (st : List Value) (w : zW) (nx K : Nat → zL → List Value → zW → Prop) (Rt : Option Value → zW → Prop) : z_st1 (tX4_makeRuns 56) 56 lv st w nx K Rt = (z_1i st (fun x r => z_ok1 lv 5 = true ∧ nx 58 (lv.set 5 (some (.int x))) r w)) := id rfl
theorem sX4_makeRuns_58 (lv : zL) (st : List Value) (w : zW) (nx K : Nat → zL → List Value → zW → Prop) (Rt : Option Value → zW → Prop) : z_st1 (tX4_makeRuns 58) 58 lv st w nx K Rt = (z_li lv 5 (fun x => nx 60 lv (.int x :: st) w)) := id rfl
theorem sX4_makeRuns_60 (lv : zL) (st : List Value) (w : zW) (nx K : Nat → zL → List Value → zW → Prop) (Rt : Option Value → zW → Prop) : z_st1 (tX4_makeRuns 60) 60 lv st w nx K Rt = (z_li lv 4 (fun x => nx 62 lv (.int x :: st) w)) := id rfl
theorem sX4_makeRuns_62 (lv : zL) (st : List Value) (w : zW) (nx K : Nat → zL → List Value → zW → Prop) (Rt : Option Value → zW → Prop) : z_st1 (tX4_makeRuns 62) 62 lv st w nx K Rt = (z_2i st (fun x y r => (y ≤ x → nx 78 lv r w) ∧ (¬ y ≤ x → nx 65 lv r w))) := id rfl
theorem sX4_makeRuns_65 (lv : zL) (st : List Value) (w : zW) (nx K : Nat → zL → List Value → zW → Prop) (Rt : Option Value → zW → Prop) : z_st1 (tX4_makeRuns 65) 65 lv st w nx K Rt = (z_la lv 0 (fun x => nx 66 lv (.ref x :: st) w)) := id rfl
theorem sX4_makeRuns_66 (lv : zL) (st : List Value) (w : zW) (nx K : Nat → zL → List Value → zW → Prop) (Rt : Option Value → zW → Prop) : z_st1 (tX4_makeRuns 66) 66 lv st w nx K Rt = (z_li lv 3 (fun x => nx 67 lv (.int x :: st) w)) := id rfl
theorem sX4_makeRuns_67 (lv : zL) (st : List Value) (w : zW) (nx K : Nat → zL → List Value → zW → Prop) (Rt : Option Value → zW → Prop) : z_st1 (tX4_makeRuns 67) 67 lv st w nx K Rt = (z_li lv 5 (fun x => nx 69 lv (.int x :: st) w)) := id rfl
theorem sX4_makeRuns_72 (lv : zL) (st : List Value) (w : zW) (nx K : Nat → zL → List Value → zW → Prop) (Rt : Option Value → zW → Prop) : z_st1 (tX4_makeRuns 72) 72 lv st w nx K Rt = (z_li lv 5 (fun x => z_ok1 lv 5 = true ∧ nx 75 (lv.set 5 (some (.int (x + (1 : Int32))))) st w)) := id rfl
theorem sX4_makeRuns_75 (lv : zL) (st : List Value) (w : zW) (nx K : Nat → zL → List Value → zW → Prop) (Rt : Option Value → zW → Prop) : z_st1 (tX4_makeRuns 75) 75 lv st w nx K Rt = (nx 58 lv st w) := id rfl
theorem sX4_makeRuns_78 (lv : zL) (st : List Value) (w : zW) (nx K : Nat → zL → List Value → zW → Prop) (Rt : Option Value → zW → Prop) : z_st1 (tX4_makeRuns 78) 78 lv st w nx K Rt = (z_li lv 3 (fun x => nx 79 lv (.int x :: st) w)) := id rfl
theorem sX4_makeRuns_79 (lv : zL) (st : List Value) (w : zW) (nx K : Nat → zL → List Value → zW → Prop) (Rt : Option Value → zW → Prop) : z_st1 (tX4_makeRuns 79) 79 lv st w nx K Rt = (z_li lv 2 (fun x => nx 80 lv (.int x :: st) w)) := id rfl
theorem sX4_makeRuns_80 (lv : zL) (st : List Value) (w : zW) (nx K : Nat → zL → List Value → zW → Prop) (Rt : Option Value → zW → Prop) : z_st1 (tX4_makeRuns 80) 80 lv st w nx K Rt = (z_2i st (fun x y r => nx 81 lv (.int (x + y) :: r) w)) := id rfl
theorem sX4_makeRuns_81 (lv : zL) (st : List Value) (w : zW) (nx K : Nat → zL → List Value → zW → Prop) (Rt : Option Value → zW → Prop) : z_st1 (tX4_makeRuns 81) 81 lv st w nx K Rt = (z_1i st (fun x r => z_ok1 lv 3 = true ∧ nx 82 (lv.set 3 (some (.int x))) r w)) := id rfl
theorem sX4_makeRuns_82 (lv : zL) (st : List Value) (w : zW) (nx K : Nat → zL → List Value → zW → Prop) (Rt : Option Value → zW → Prop) : z_st1 (tX4_makeRuns 82) 82 lv st w nx K Rt = (nx 13 lv st w) := id rfl
theorem sX4_makeRuns_85 (lv : zL) (st : List Value) (w : zW) (nx K : Nat → zL → List Value → zW → Prop) (Rt : Option Value → zW → Prop) : z_st1 (tX4_makeRuns 85) 85 lv st w nx K Rt = (z_la lv 0 (fun x => nx 86 lv (.ref x :: st) w)) := id rfl
theorem sX4_makeRuns_89 (lv : zL) (st : List Value) (w : zW) (nx K : Nat → zL → List Value → zW → Prop) (Rt : Option Value → zW → Prop) : z_st1 (tX4_makeRuns 89) 89 lv st w nx K Rt = (z_la lv 0 (fun x => nx 90 lv (.ref x :: st) w)) := id rfl
theorem sX4_makeRuns_90 (lv : zL) (st : List Value) (w : zW) (nx K : Nat → zL → List Value → zW → Prop) (Rt : Option Value → zW → Prop) : z_st1 (tX4_makeRuns 90) 90 lv st w nx K Rt = (z_1a st (fun x r => z_ob w x 5 (fun fs => z_fl fs 7 (fun u => nx 93 lv (u :: r) w)))) := id rfl
theorem sX4_makeRuns_93 (lv : zL) (st : List Value) (w : zW) (nx K : Nat → zL → List Value → zW → Prop) (Rt : Option Value → zW → Prop) : z_st1 (tX4_makeRuns 93) 93 lv st w nx K Rt = (z_e1 st (fun x => Rt (some (.int x)) w)) := id rfl
theorem sX4_makeRuns_2 (lv : zL) (st : List Value) (w : zW) (nx K : Nat → zL → List Value → zW → Prop) (Rt : Option Value → zW → Prop) : z_st1 (tX4_makeRuns 2) 2 lv st w nx K Rt = K 2 lv st w := id rfl
theorem sX4_makeRuns_48 (lv : zL) (st : List Value) (w : zW) (nx K : Nat → zL → List Value → zW → Prop) (Rt : Option Value → zW → Prop) : z_st1 (tX4_makeRuns 48) 48 lv st w nx K Rt = K 48 lv st w := id rfl
theorem sX4_makeRuns_69 (lv : zL) (st : List Value) (w : zW) (nx K : Nat → zL → List Value → zW → Prop) (Rt : Option Value → zW → Prop) : z_st1 (tX4_makeRuns 69) 69 lv st w nx K Rt = K 69 lv st w := id rfl
theorem sX4_makeRuns_86 (lv : zL) (st : List Value) (w : zW) (nx K : Nat → zL → List Value → zW → Prop) (Rt : Option Value → zW → Prop) : z_st1 (tX4_makeRuns 86) 86 lv st w nx K Rt = K 86 lv st w := id rfl
theorem dX4_makeRuns_2 : decode cX4_makeRuns 2 = .ok (.invokestatic 39, 3) := by decide +kernel
theorem dX4_makeRuns_48 : decode cX4_makeRuns 48 = .ok (.invokestatic 45, 3) := by decide +kernel
theorem dX4_makeRuns_69 : decode cX4_makeRuns 69 = .ok (.invokevirtual 52, 3) := by decide +kernel
theorem dX4_makeRuns_86 : decode cX4_makeRuns 86 = .ok (.invokevirtual 56, 3) := by decide +kernel
