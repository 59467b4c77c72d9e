theorem z_tab_of {own : String} {Ts : List Cond} {nL : Nat} {ret : Option FieldType} {cc : ByteArray} {N : Nat} {tm : Nat → zI} (h : ∀ pc, pc < N → z_ck own Ts nL ret cc pc (tm pc) = true) : z_tab own Ts nL ret cc N (fun pc => if pc < N then tm pc else (99, 0, 0, 0, 0)) := by
  intro pc
  dsimp only
  by_cases hp : pc < N
  · rw [if_pos hp]; exact h pc hp
  · rw [if_neg hp]; rfl
def tmX0_init (pc : Nat) : zI := match pc with
  | 0 => (1, 0, 0, 1, 0)
  | 4 => (1, 0, 0, 5, 0)
  | 5 => (6, 0, 0, 6, 4)
  | 6 => (47, 1, 1, 9, 0)
  | 9 => (55, 0, 0, 10, 0)
  | _ => (99, 0, 0, 0, 0)
def tX0_init (pc : Nat) : zI := if pc < 10 then tmX0_init pc else (99, 0, 0, 0, 0)
theorem tkX0_init : z_tab RX0 wsX0_init 1 none cX0_init 10 tX0_init := z_tab_of (tm := tmX0_init) (by decide +kernel)
theorem sX0_init_0 (lv : zL) (st : List Value) (w : zW) (nx K : Nat → zL → List Value → zW → Prop) (Rt : Option Value → zW → Prop) : z_st1 (tX0_init 0) 0 lv st w nx K Rt = (z_la lv 0 (fun x => nx 1 lv (.ref x :: st) w)) := id rfl
theorem sX0_init_4 (lv : zL) (st : List Value) (w : zW) (nx K : Nat → zL → List Value → zW → Prop) (Rt : Option Value → zW → Prop) : z_st1 (tX0_init 4) 4 lv st w nx K Rt = (z_la lv 0 (fun x => nx 5 lv (.ref x :: st) w)) := id rfl
theorem sX0_init_5 (lv : zL) (st : List Value) (w : zW) (nx K : Nat → zL → List Value → zW → Prop) (Rt : Option Value → zW → Prop) : z_st1 (tX0_init 5) 5 lv st w nx K Rt = (nx 6 lv (.int (4 : Int32) :: st) w) := id rfl
theorem sX0_init_6 (lv : zL) (st : List Value) (w : zW) (nx K : Nat → zL → List Value → zW → Prop) (Rt : Option Value → zW → Prop) : z_st1 (tX0_init 6) 6 lv st w nx K Rt = (z_ia st (fun x i r => z_ob w x 1 (fun fs => 1 < fs.length ∧ nx 9 lv r (z_up w x (.inr (1, fs.set 1 (.int i))))))) := id rfl
theorem sX0_init_9 (lv : zL) (st : List Value) (w : zW) (nx K : Nat → zL → List Value → zW → Prop) (Rt : Option Value → zW → Prop) : z_st1 (tX0_init 9) 9 lv st w nx K Rt = (z_e0 st (Rt none w)) := id rfl
theorem sX0_init_1 (lv : zL) (st : List Value) (w : zW) (nx K : Nat → zL → List Value → zW → Prop) (Rt : Option Value → zW → Prop) : z_st1 (tX0_init 1) 1 lv st w nx K Rt = K 1 lv st w := id rfl
theorem dX0_init_1 : decode cX0_init 1 = .ok (.invokespecial 1, 3) := by decide +kernel

def tmX0_tell (pc : Nat) : zI := match pc with
  | 0 => (1, 0, 0, 1, 0)
  | 1 => (0, 1, 0, 2, 0)
  | 2 => (47, 1, 0, 5, 0)
  | 5 => (1, 0, 0, 6, 0)
  | 6 => (0, 2, 0, 7, 0)
  | 7 => (47, 1, 1, 10, 0)
  | 10 => (1, 0, 0, 11, 0)
  | 11 => (0, 3, 0, 12, 0)
  | 12 => (47, 1, 2, 15, 0)
  | 15 => (55, 0, 0, 16, 0)
  | _ => (99, 0, 0, 0, 0)
def tX0_tell (pc : Nat) : zI := if pc < 16 then tmX0_tell pc else (99, 0, 0, 0, 0)
theorem tkX0_tell : z_tab RX0 wsX0_tell 4 none cX0_tell 16 tX0_tell := z_tab_of (tm := tmX0_tell) (by decide +kernel)
theorem sX0_tell_0 (lv : zL) (st : List Value) (w : zW) (nx K : Nat → zL → List Value → zW → Prop) (Rt : Option Value → zW → Prop) : z_st1 (tX0_tell 0) 0 lv st w nx K Rt = (z_la lv 0 (fun x => nx 1 lv (.ref x :: st) w)) := id rfl
theorem sX0_tell_1 (lv : zL) (st : List Value) (w : zW) (nx K : Nat → zL → List Value → zW → Prop) (Rt : Option Value → zW → Prop) : z_st1 (tX0_tell 1) 1 lv st w nx K Rt = (z_li lv 1 (fun x => nx 2 lv (.int x :: st) w)) := id rfl
theorem sX0_tell_2 (lv : zL) (st : List Value) (w : zW) (nx K : Nat → zL → List Value → zW → Prop) (Rt : Option Value → zW → Prop) : z_st1 (tX0_tell 2) 2 lv st w nx K Rt = (z_ia st (fun x i r => z_ob w x 1 (fun fs => 0 < fs.length ∧ nx 5 lv r (z_up w x (.inr (1, fs.set 0 (.int i))))))) := id rfl
theorem sX0_tell_5 (lv : zL) (st : List Value) (w : zW) (nx K : Nat → zL → List Value → zW → Prop) (Rt : Option Value → zW → Prop) : z_st1 (tX0_tell 5) 5 lv st w nx K Rt = (z_la lv 0 (fun x => nx 6 lv (.ref x :: st) w)) := id rfl
theorem sX0_tell_6 (lv : zL) (st : List Value) (w : zW) (nx K : Nat → zL → List Value → zW → Prop) (Rt : Option Value → zW → Prop) : z_st1 (tX0_tell 6) 6 lv st w nx K Rt = (z_li lv 2 (fun x => nx 7 lv (.int x :: st) w)) := id rfl
theorem sX0_tell_7 (lv : zL) (st : List Value) (w : zW) (nx K : Nat → zL → List Value → zW → Prop) (Rt : Option Value → zW → Prop) : z_st1 (tX0_tell 7) 7 lv st w nx K Rt = (z_ia st (fun x i r => z_ob w x 1 (fun fs => 1 < fs.length ∧ nx 10 lv r (z_up w x (.inr (1, fs.set 1 (.int i))))))) := id rfl
theorem sX0_tell_10 (lv : zL) (st : List Value) (w : zW) (nx K : Nat → zL → List Value → zW → Prop) (Rt : Option Value → zW → Prop) : z_st1 (tX0_tell 10) 10 lv st w nx K Rt = (z_la lv 0 (fun x => nx 11 lv (.ref x :: st) w)) := id rfl
theorem sX0_tell_11 (lv : zL) (st : List Value) (w : zW) (nx K : Nat → zL → List Value → zW → Prop) (Rt : Option Value → zW → Prop) : z_st1 (tX0_tell 11) 11 lv st w nx K Rt = (z_li lv 3 (fun x => nx 12 lv (.int x :: st) w)) := id rfl
theorem sX0_tell_12 (lv : zL) (st : List Value) (w : zW) (nx K : Nat → zL → List Value → zW → Prop) (Rt : Option Value → zW → Prop) : z_st1 (tX0_tell 12) 12 lv st w nx K Rt = (z_ia st (fun x i r => z_ob w x 1 (fun fs => 2 < fs.length ∧ nx 15 lv r (z_up w x (.inr (1, fs.set 2 (.int i))))))) := id rfl
theorem sX0_tell_15 (lv : zL) (st : List Value) (w : zW) (nx K : Nat → zL → List Value → zW → Prop) (Rt : Option Value → zW → Prop) : z_st1 (tX0_tell 15) 15 lv st w nx K Rt = (z_e0 st (Rt none w)) := id rfl

def tmX1_init (pc : Nat) : zI := match pc with
  | 0 => (1, 0, 0, 1, 0)
  | 4 => (55, 0, 0, 5, 0)
  | _ => (99, 0, 0, 0, 0)
def tX1_init (pc : Nat) : zI := if pc < 5 then tmX1_init pc else (99, 0, 0, 0, 0)
theorem tkX1_init : z_tab RX1 wsX1_init 1 none cX1_init 5 tX1_init := z_tab_of (tm := tmX1_init) (by decide +kernel)
theorem sX1_init_0 (lv : zL) (st : List Value) (w : zW) (nx K : Nat → zL → List Value → zW → Prop) (Rt : Option Value → zW → Prop) : z_st1 (tX1_init 0) 0 lv st w nx K Rt = (z_la lv 0 (fun x => nx 1 lv (.ref x :: st) w)) := id rfl
theorem sX1_init_4 (lv : zL) (st : List Value) (w : zW) (nx K : Nat → zL → List Value → zW → Prop) (Rt : Option Value → zW → Prop) : z_st1 (tX1_init 4) 4 lv st w nx K Rt = (z_e0 st (Rt none w)) := id rfl
theorem sX1_init_1 (lv : zL) (st : List Value) (w : zW) (nx K : Nat → zL → List Value → zW → Prop) (Rt : Option Value → zW → Prop) : z_st1 (tX1_init 1) 1 lv st w nx K Rt = K 1 lv st w := id rfl
theorem dX1_init_1 : decode cX1_init 1 = .ok (.invokespecial 3, 3) := by decide +kernel

def tmX1_tell (pc : Nat) : zI := match pc with
  | 0 => (1, 0, 0, 1, 0)
  | 1 => (0, 1, 0, 2, 0)
  | 2 => (47, 2, 0, 5, 0)
  | 5 => (1, 0, 0, 6, 0)
  | 6 => (0, 2, 0, 7, 0)
  | 7 => (47, 2, 1, 10, 0)
  | 10 => (55, 0, 0, 11, 0)
  | _ => (99, 0, 0, 0, 0)
def tX1_tell (pc : Nat) : zI := if pc < 11 then tmX1_tell pc else (99, 0, 0, 0, 0)
theorem tkX1_tell : z_tab RX1 wsX1_tell 3 none cX1_tell 11 tX1_tell := z_tab_of (tm := tmX1_tell) (by decide +kernel)
theorem sX1_tell_0 (lv : zL) (st : List Value) (w : zW) (nx K : Nat → zL → List Value → zW → Prop) (Rt : Option Value → zW → Prop) : z_st1 (tX1_tell 0) 0 lv st w nx K Rt = (z_la lv 0 (fun x => nx 1 lv (.ref x :: st) w)) := id rfl
theorem sX1_tell_1 (lv : zL) (st : List Value) (w : zW) (nx K : Nat → zL → List Value → zW → Prop) (Rt : Option Value → zW → Prop) : z_st1 (tX1_tell 1) 1 lv st w nx K Rt = (z_li lv 1 (fun x => nx 2 lv (.int x :: st) w)) := id rfl
theorem sX1_tell_2 (lv : zL) (st : List Value) (w : zW) (nx K : Nat → zL → List Value → zW → Prop) (Rt : Option Value → zW → Prop) : z_st1 (tX1_tell 2) 2 lv st w nx K Rt = (z_ia st (fun x i r => z_ob w x 2 (fun fs => 0 < fs.length ∧ nx 5 lv r (z_up w x (.inr (2, fs.set 0 (.int i))))))) := id rfl
theorem sX1_tell_5 (lv : zL) (st : List Value) (w : zW) (nx K : Nat → zL → List Value → zW → Prop) (Rt : Option Value → zW → Prop) : z_st1 (tX1_tell 5) 5 lv st w nx K Rt = (z_la lv 0 (fun x => nx 6 lv (.ref x :: st) w)) := id rfl
theorem sX1_tell_6 (lv : zL) (st : List Value) (w : zW) (nx K : Nat → zL → List Value → zW → Prop) (Rt : Option Value → zW → Prop) : z_st1 (tX1_tell 6) 6 lv st w nx K Rt = (z_li lv 2 (fun x => nx 7 lv (.int x :: st) w)) := id rfl
theorem sX1_tell_7 (lv : zL) (st : List Value) (w : zW) (nx K : Nat → zL → List Value → zW → Prop) (Rt : Option Value → zW → Prop) : z_st1 (tX1_tell 7) 7 lv st w nx K Rt = (z_ia st (fun x i r => z_ob w x 2 (fun fs => 1 < fs.length ∧ nx 10 lv r (z_up w x (.inr (2, fs.set 1 (.int i))))))) := id rfl
theorem sX1_tell_10 (lv : zL) (st : List Value) (w : zW) (nx K : Nat → zL → List Value → zW → Prop) (Rt : Option Value → zW → Prop) : z_st1 (tX1_tell 10) 10 lv st w nx K Rt = (z_e0 st (Rt none w)) := id rfl

def tmX2_init (pc : Nat) : zI := match pc with
  | 0 => (1, 0, 0, 1, 0)
  | 4 => (1, 0, 0, 5, 0)
  | 5 => (6, 0, 0, 8, 1600)
  | 13 => (1, 0, 0, 14, 0)
  | 14 => (6, 0, 0, 16, 8)
  | 21 => (55, 0, 0, 22, 0)
  | _ => (99, 0, 0, 0, 0)
def tX2_init (pc : Nat) : zI := if pc < 22 then tmX2_init pc else (99, 0, 0, 0, 0)
theorem tkX2_init : z_tab RX2 wsX2_init 1 none cX2_init 22 tX2_init := z_tab_of (tm := tmX2_init) (by decide +kernel)
theorem sX2_init_0 (lv : zL) (st : List Value) (w : zW) (nx K : Nat → zL → List Value → zW → Prop) (Rt : Option Value → zW → Prop) : z_st1 (tX2_init 0) 0 lv st w nx K Rt = (z_la lv 0 (fun x => nx 1 lv (.ref x :: st) w)) := id rfl
theorem sX2_init_4 (lv : zL) (st : List Value) (w : zW) (nx K : Nat → zL → List Value → zW → Prop) (Rt : Option Value → zW → Prop) : z_st1 (tX2_init 4) 4 lv st w nx K Rt = (z_la lv 0 (fun x => nx 5 lv (.ref x :: st) w)) := id rfl
theorem sX2_init_5 (lv : zL) (st : List Value) (w : zW) (nx K : Nat → zL → List Value → zW → Prop) (Rt : Option Value → zW → Prop) : z_st1 (tX2_init 5) 5 lv st w nx K Rt = (nx 8 lv (.int (1600 : Int32) :: st) w) := id rfl
theorem sX2_init_13 (lv : zL) (st : List Value) (w : zW) (nx K : Nat → zL → List Value → zW → Prop) (Rt : Option Value → zW → Prop) : z_st1 (tX2_init 13) 13 lv st w nx K Rt = (z_la lv 0 (fun x => nx 14 lv (.ref x :: st) w)) := id rfl
theorem sX2_init_14 (lv : zL) (st : List Value) (w : zW) (nx K : Nat → zL → List Value → zW → Prop) (Rt : Option Value → zW → Prop) : z_st1 (tX2_init 14) 14 lv st w nx K Rt = (nx 16 lv (.int (8 : Int32) :: st) w) := id rfl
theorem sX2_init_21 (lv : zL) (st : List Value) (w : zW) (nx K : Nat → zL → List Value → zW → Prop) (Rt : Option Value → zW → Prop) : z_st1 (tX2_init 21) 21 lv st w nx K Rt = (z_e0 st (Rt none w)) := id rfl
theorem sX2_init_1 (lv : zL) (st : List Value) (w : zW) (nx K : Nat → zL → List Value → zW → Prop) (Rt : Option Value → zW → Prop) : z_st1 (tX2_init 1) 1 lv st w nx K Rt = K 1 lv st w := id rfl
theorem sX2_init_8 (lv : zL) (st : List Value) (w : zW) (nx K : Nat → zL → List Value → zW → Prop) (Rt : Option Value → zW → Prop) : z_st1 (tX2_init 8) 8 lv st w nx K Rt = K 8 lv st w := id rfl
theorem sX2_init_10 (lv : zL) (st : List Value) (w : zW) (nx K : Nat → zL → List Value → zW → Prop) (Rt : Option Value → zW → Prop) : z_st1 (tX2_init 10) 10 lv st w nx K Rt = K 10 lv st w := id rfl
theorem sX2_init_16 (lv : zL) (st : List Value) (w : zW) (nx K : Nat → zL → List Value → zW → Prop) (Rt : Option Value → zW → Prop) : z_st1 (tX2_init 16) 16 lv st w nx K Rt = K 16 lv st w := id rfl
theorem sX2_init_18 (lv : zL) (st : List Value) (w : zW) (nx K : Nat → zL → List Value → zW → Prop) (Rt : Option Value → zW → Prop) : z_st1 (tX2_init 18) 18 lv st w nx K Rt = K 18 lv st w := id rfl
theorem dX2_init_1 : decode cX2_init 1 = .ok (.invokespecial 3, 3) := by decide +kernel
theorem dX2_init_8 : decode cX2_init 8 = .ok (.newarray .int, 2) := by decide +kernel
theorem dX2_init_10 : decode cX2_init 10 = .ok (.putfield 9, 3) := by decide +kernel
theorem dX2_init_16 : decode cX2_init 16 = .ok (.newarray .int, 2) := by decide +kernel
theorem dX2_init_18 : decode cX2_init 18 = .ok (.putfield 15, 3) := by decide +kernel

def tmX2_all (pc : Nat) : zI := match pc with
  | 0 => (1, 0, 0, 1, 0)
  | 1 => (46, 3, 2, 4, 0)
  | 4 => (53, 0, 0, 5, 0)
  | _ => (99, 0, 0, 0, 0)
def tX2_all (pc : Nat) : zI := if pc < 5 then tmX2_all pc else (99, 0, 0, 0, 0)
theorem tkX2_all : z_tab RX2 wsX2_all 1 (some .int) cX2_all 5 tX2_all := z_tab_of (tm := tmX2_all) (by decide +kernel)
theorem sX2_all_0 (lv : zL) (st : List Value) (w : zW) (nx K : Nat → zL → List Value → zW → Prop) (Rt : Option Value → zW → Prop) : z_st1 (tX2_all 0) 0 lv st w nx K Rt = (z_la lv 0 (fun x => nx 1 lv (.ref x :: st) w)) := id rfl
theorem sX2_all_1 (lv : zL) (st : List Value) (w : zW) (nx K : Nat → zL → List Value → zW → Prop) (Rt : Option Value → zW → Prop) : z_st1 (tX2_all 1) 1 lv st w nx K Rt = (z_1a st (fun x r => z_ob w x 3 (fun fs => z_fl fs 2 (fun u => nx 4 lv (u :: r) w)))) := id rfl
theorem sX2_all_4 (lv : zL) (st : List Value) (w : zW) (nx K : Nat → zL → List Value → zW → Prop) (Rt : Option Value → zW → Prop) : z_st1 (tX2_all 4) 4 lv st w nx K Rt = (z_e1 st (fun x => Rt (some (.int x)) w)) := id rfl

def tmX2_held (pc : Nat) : zI := match pc with
  | 0 => (0, 1, 0, 1, 0)
  | 1 => (36, 10, 0, 4, 0)
  | 4 => (0, 1, 0, 5, 0)
  | 5 => (6, 0, 0, 7, 8)
  | 7 => (42, 14, 0, 10, 0)
  | 10 => (6, 0, 0, 11, 0)
  | 11 => (33, 20, 0, 14, 0)
  | 14 => (1, 0, 0, 15, 0)
  | 15 => (46, 3, 1, 18, 0)
  | 18 => (0, 1, 0, 19, 0)
  | 19 => (48, 0, 0, 20, 0)
  | 20 => (53, 0, 0, 21, 0)
  | _ => (99, 0, 0, 0, 0)
def tX2_held (pc : Nat) : zI := if pc < 21 then tmX2_held pc else (99, 0, 0, 0, 0)
theorem tkX2_held : z_tab RX2 wsX2_held 2 (some .int) cX2_held 21 tX2_held := z_tab_of (tm := tmX2_held) (by decide +kernel)
theorem sX2_held_0 (lv : zL) (st : List Value) (w : zW) (nx K : Nat → zL → List Value → zW → Prop) (Rt : Option Value → zW → Prop) : z_st1 (tX2_held 0) 0 lv st w nx K Rt = (z_li lv 1 (fun x => nx 1 lv (.int x :: st) w)) := id rfl
theorem sX2_held_1 (lv : zL) (st : List Value) (w : zW) (nx K : Nat → zL → List Value → zW → Prop) (Rt : Option Value → zW → Prop) : z_st1 (tX2_held 1) 1 lv st w nx K Rt = (z_1i st (fun x r => (x < 0 → nx 10 lv r w) ∧ (¬ x < 0 → nx 4 lv r w))) := id rfl
theorem sX2_held_4 (lv : zL) (st : List Value) (w : zW) (nx K : Nat → zL → List Value → zW → Prop) (Rt : Option Value → zW → Prop) : z_st1 (tX2_held 4) 4 lv st w nx K Rt = (z_li lv 1 (fun x => nx 5 lv (.int x :: st) w)) := id rfl
theorem sX2_held_5 (lv : zL) (st : List Value) (w : zW) (nx K : Nat → zL → List Value → zW → Prop) (Rt : Option Value → zW → Prop) : z_st1 (tX2_held 5) 5 lv st w nx K Rt = (nx 7 lv (.int (8 : Int32) :: st) w) := id rfl
theorem sX2_held_7 (lv : zL) (st : List Value) (w : zW) (nx K : Nat → zL → List Value → zW → Prop) (Rt : Option Value → zW → Prop) : z_st1 (tX2_held 7) 7 lv st w nx K Rt = (z_2i st (fun x y r => (x < y → nx 14 lv r w) ∧ (¬ x < y → nx 10 lv r w))) := id rfl
theorem sX2_held_10 (lv : zL) (st : List Value) (w : zW) (nx K : Nat → zL → List Value → zW → Prop) (Rt : Option Value → zW → Prop) : z_st1 (tX2_held 10) 10 lv st w nx K Rt = (nx 11 lv (.int (0 : Int32) :: st) w) := id rfl
theorem sX2_held_11 (lv : zL) (st : List Value) (w : zW) (nx K : Nat → zL → List Value → zW → Prop) (Rt : Option Value → zW → Prop) : z_st1 (tX2_held 11) 11 lv st w nx K Rt = (nx 20 lv st w) := id rfl
theorem sX2_held_14 (lv : zL) (st : List Value) (w : zW) (nx K : Nat → zL → List Value → zW → Prop) (Rt : Option Value → zW → Prop) : z_st1 (tX2_held 14) 14 lv st w nx K Rt = (z_la lv 0 (fun x => nx 15 lv (.ref x :: st) w)) := id rfl
theorem sX2_held_15 (lv : zL) (st : List Value) (w : zW) (nx K : Nat → zL → List Value → zW → Prop) (Rt : Option Value → zW → Prop) : z_st1 (tX2_held 15) 15 lv st w nx K Rt = (z_1a st (fun x r => z_ob w x 3 (fun fs => z_fl fs 1 (fun u => nx 18 lv (u :: r) w)))) := id rfl
theorem sX2_held_18 (lv : zL) (st : List Value) (w : zW) (nx K : Nat → zL → List Value → zW → Prop) (Rt : Option Value → zW → Prop) : z_st1 (tX2_held 18) 18 lv st w nx K Rt = (z_li lv 1 (fun x => nx 19 lv (.int x :: st) w)) := id rfl
theorem sX2_held_19 (lv : zL) (st : List Value) (w : zW) (nx K : Nat → zL → List Value → zW → Prop) (Rt : Option Value → zW → Prop) : z_st1 (tX2_held 19) 19 lv st w nx K Rt = (z_ia st (fun x i r => z_ar0 w x (fun m g => vp_in i m ∧ nx 20 lv (.int (g i.toNatClampNeg) :: r) w))) := id rfl
theorem sX2_held_20 (lv : zL) (st : List Value) (w : zW) (nx K : Nat → zL → List Value → zW → Prop) (Rt : Option Value → zW → Prop) : z_st1 (tX2_held 20) 20 lv st w nx K Rt = (z_e1 st (fun x => Rt (some (.int x)) w)) := id rfl

def tmX2_clear (pc : Nat) : zI := match pc with
  | 0 => (6, 0, 0, 1, 0)
  | 1 => (3, 1, 0, 2, 0)
  | 2 => (0, 1, 0, 3, 0)
  | 3 => (6, 0, 0, 5, 8)
  | 5 => (43, 21, 0, 8, 0)
  | 8 => (1, 0, 0, 9, 0)
  | 9 => (46, 3, 1, 12, 0)
  | 12 => (0, 1, 0, 13, 0)
  | 13 => (6, 0, 0, 14, 0)
  | 14 => (49, 0, 0, 15, 0)
  | 15 => (7, 1, 0, 18, 1)
  | 18 => (33, 2, 0, 21, 0)
  | 21 => (1, 0, 0, 22, 0)
  | 22 => (6, 0, 0, 23, 0)
  | 23 => (47, 3, 2, 26, 0)
  | 26 => (55, 0, 0, 27, 0)
  | _ => (99, 0, 0, 0, 0)
def tX2_clear (pc : Nat) : zI := if pc < 27 then tmX2_clear pc else (99, 0, 0, 0, 0)
theorem tkX2_clear : z_tab RX2 wsX2_clear 2 none cX2_clear 27 tX2_clear := z_tab_of (tm := tmX2_clear) (by decide +kernel)
theorem sX2_clear_0 (lv : zL) (st : List Value) (w : zW) (nx K : Nat → zL → List Value → zW → Prop) (Rt : Option Value → zW → Prop) : z_st1 (tX2_clear 0) 0 lv st w nx K Rt = (nx 1 lv (.int (0 : Int32) :: st) w) := id rfl
theorem sX2_clear_1 (lv : zL) (st : List Value) (w : zW) (nx K : Nat → zL → List Value → zW → Prop) (Rt : Option Value → zW → Prop) : z_st1 (tX2_clear 1) 1 lv st w nx K Rt = (z_1i st (fun x r => z_ok1 lv 1 = true ∧ nx 2 (lv.set 1 (some (.int x))) r w)) := id rfl
theorem sX2_clear_2 (lv : zL) (st : List Value) (w : zW) (nx K : Nat → zL → List Value → zW → Prop) (Rt : Option Value → zW → Prop) : z_st1 (tX2_clear 2) 2 lv st w nx K Rt = (z_li lv 1 (fun x => nx 3 lv (.int x :: st) w)) := id rfl
theorem sX2_clear_3 (lv : zL) (st : List Value) (w : zW) (nx K : Nat → zL → List Value → zW → Prop) (Rt : Option Value → zW → Prop) : z_st1 (tX2_clear 3) 3 lv st w nx K Rt = (nx 5 lv (.int (8 : Int32) :: st) w) := id rfl
theorem sX2_clear_5 (lv : zL) (st : List Value) (w : zW) (nx K : Nat → zL → List Value → zW → Prop) (Rt : Option Value → zW → Prop) : z_st1 (tX2_clear 5) 5 lv st w nx K Rt = (z_2i st (fun x y r => (y ≤ x → nx 21 lv r w) ∧ (¬ y ≤ x → nx 8 lv r w))) := id rfl
theorem sX2_clear_8 (lv : zL) (st : List Value) (w : zW) (nx K : Nat → zL → List Value → zW → Prop) (Rt : Option Value → zW → Prop) : z_st1 (tX2_clear 8) 8 lv st w nx K Rt = (z_la lv 0 (fun x => nx 9 lv (.ref x :: st) w)) := id rfl
theorem sX2_clear_9 (lv : zL) (st : List Value) (w : zW) (nx K : Nat → zL → List Value → zW → Prop) (Rt : Option Value → zW → Prop) : z_st1 (tX2_clear 9) 9 lv st w nx K Rt = (z_1a st (fun x r => z_ob w x 3 (fun fs => z_fl fs 1 (fun u => nx 12 lv (u :: r) w)))) := id rfl
theorem sX2_clear_12 (lv : zL) (st : List Value) (w : zW) (nx K : Nat → zL → List Value → zW → Prop) (Rt : Option Value → zW → Prop) : z_st1 (tX2_clear 12) 12 lv st w nx K Rt = (z_li lv 1 (fun x => nx 13 lv (.int x :: st) w)) := id rfl
theorem sX2_clear_13 (lv : zL) (st : List Value) (w : zW) (nx K : Nat → zL → List Value → zW → Prop) (Rt : Option Value → zW → Prop) : z_st1 (tX2_clear 13) 13 lv st w nx K Rt = (nx 14 lv (.int (0 : Int32) :: st) w) := id rfl
theorem sX2_clear_14 (lv : zL) (st : List Value) (w : zW) (nx K : Nat → zL → List Value → zW → Prop) (Rt : Option Value → zW → Prop) : z_st1 (tX2_clear 14) 14 lv st w nx K Rt = (z_iia st (fun x i u r => z_ar0 w x (fun m g => vp_in i m ∧ nx 15 lv r (z_up w x (.inl (0, m, .inl (upd g i.toNatClampNeg u))))))) := id rfl
theorem sX2_clear_15 (lv : zL) (st : List Value) (w : zW) (nx K : Nat → zL → List Value → zW → Prop) (Rt : Option Value → zW → Prop) : z_st1 (tX2_clear 15) 15 lv st w nx K Rt = (z_li lv 1 (fun x => z_ok1 lv 1 = true ∧ nx 18 (lv.set 1 (some (.int (x + (1 : Int32))))) st w)) := id rfl
theorem sX2_clear_18 (lv : zL) (st : List Value) (w : zW) (nx K : Nat → zL → List Value → zW → Prop) (Rt : Option Value → zW → Prop) : z_st1 (tX2_clear 18) 18 lv st w nx K Rt = (nx 2 lv st w) := id rfl
theorem sX2_clear_21 (lv : zL) (st : List Value) (w : zW) (nx K : Nat → zL → List Value → zW → Prop) (Rt : Option Value → zW → Prop) : z_st1 (tX2_clear 21) 21 lv st w nx K Rt = (z_la lv 0 (fun x => nx 22 lv (.ref x :: st) w)) := id rfl
theorem sX2_clear_22 (lv : zL) (st : List Value) (w : zW) (nx K : Nat → zL → List Value → zW → Prop) (Rt : Option Value → zW → Prop) : z_st1 (tX2_clear 22) 22 lv st w nx K Rt = (nx 23 lv (.int (0 : Int32) :: st) w) := id rfl
theorem sX2_clear_23 (lv : zL) (st : List Value) (w : zW) (nx K : Nat → zL → List Value → zW → Prop) (Rt : Option Value → zW → Prop) : z_st1 (tX2_clear 23) 23 lv st w nx K Rt = (z_ia st (fun x i r => z_ob w x 3 (fun fs => 2 < fs.length ∧ nx 26 lv r (z_up w x (.inr (3, fs.set 2 (.int i))))))) := id rfl
theorem sX2_clear_26 (lv : zL) (st : List Value) (w : zW) (nx K : Nat → zL → List Value → zW → Prop) (Rt : Option Value → zW → Prop) : z_st1 (tX2_clear 26) 26 lv st w nx K Rt = (z_e0 st (Rt none w)) := id rfl

def tmX2_firstOutOfOrder (pc : Nat) : zI := match pc with
  | 0 => (6, 0, 0, 1, 0)
  | 1 => (3, 3, 0, 2, 0)
  | 2 => (0, 3, 0, 3, 0)
  | 3 => (6, 0, 0, 5, 8)
  | 5 => (43, 64, 0, 8, 0)
  | 8 => (6, 0, 0, 9, 1)
  | 9 => (3, 4, 0, 11, 0)
  | 11 => (0, 4, 0, 13, 0)
  | 13 => (1, 0, 0, 14, 0)
  | 14 => (46, 3, 1, 17, 0)
  | 17 => (0, 3, 0, 18, 0)
  | 18 => (48, 0, 0, 19, 0)
  | 19 => (43, 58, 0, 22, 0)
  | 22 => (1, 2, 0, 23, 0)
  | 23 => (1, 1, 0, 24, 0)
  | 24 => (1, 0, 0, 25, 0)
  | 25 => (0, 3, 0, 26, 0)
  | 26 => (0, 4, 0, 28, 0)
  | 28 => (6, 0, 0, 29, 1)
  | 29 => (9, 0, 0, 30, 0)
  | 33 => (6, 0, 0, 34, 1)
  | 34 => (9, 0, 0, 35, 0)
  | 35 => (1, 0, 0, 36, 0)
  | 36 => (0, 3, 0, 37, 0)
  | 37 => (0, 4, 0, 39, 0)
  | 42 => (6, 0, 0, 43, 1)
  | 43 => (9, 0, 0, 44, 0)
  | 47 => (39, 52, 0, 50, 0)
  | 50 => (0, 3, 0, 51, 0)
  | 51 => (53, 0, 0, 52, 0)
  | 52 => (7, 4, 0, 55, 1)
  | 55 => (33, 11, 0, 58, 0)
  | 58 => (7, 3, 0, 61, 1)
  | 61 => (33, 2, 0, 64, 0)
  | 64 => (6, 0, 0, 65, (-1))
  | 65 => (53, 0, 0, 66, 0)
  | _ => (99, 0, 0, 0, 0)
def tX2_firstOutOfOrder (pc : Nat) : zI := if pc < 66 then tmX2_firstOutOfOrder pc else (99, 0, 0, 0, 0)
theorem tkX2_firstOutOfOrder : z_tab RX2 wsX2_firstOutOfOrder 5 (some .int) cX2_firstOutOfOrder 66 tX2_firstOutOfOrder := z_tab_of (tm := tmX2_firstOutOfOrder) (by decide +kernel)
theorem sX2_firstOutOfOrder_0 (lv : zL) (st : List Value) (w : zW) (nx K : Nat → zL → List Value → zW → Prop) (Rt : Option Value → zW → Prop) : z_st1 (tX2_firstOutOfOrder 0) 0 lv st w nx K Rt = (nx 1 lv (.int (0 : Int32) :: st) w) := id rfl
theorem sX2_firstOutOfOrder_1 (lv : zL) (st : List Value) (w : zW) (nx K : Nat → zL → List Value → zW → Prop) (Rt : Option Value → zW → Prop) : z_st1 (tX2_firstOutOfOrder 1) 1 lv st w nx K Rt = (z_1i st (fun x r => z_ok1 lv 3 = true ∧ nx 2 (lv.set 3 (some (.int x))) r w)) := id rfl
theorem sX2_firstOutOfOrder_2 (lv : zL) (st : List Value) (w : zW) (nx K : Nat → zL → List Value → zW → Prop) (Rt : Option Value → zW → Prop) : z_st1 (tX2_firstOutOfOrder 2) 2 lv st w nx K Rt = (z_li lv 3 (fun x => nx 3 lv (.int x :: st) w)) := id rfl
theorem sX2_firstOutOfOrder_3 (lv : zL) (st : List Value) (w : zW) (nx K : Nat → zL → List Value → zW → Prop) (Rt : Option Value → zW → Prop) : z_st1 (tX2_firstOutOfOrder 3) 3 lv st w nx K Rt = (nx 5 lv (.int (8 : Int32) :: st) w) := id rfl
theorem sX2_firstOutOfOrder_5 (lv : zL) (st : List Value) (w : zW) (nx K : Nat → zL → List Value → zW → Prop) (Rt : Option Value → zW → Prop) : z_st1 (tX2_firstOutOfOrder 5) 5 lv st w nx K Rt = (z_2i st (fun x y r => (y ≤ x → nx 64 lv r w) ∧ (¬ y ≤ x → nx 8 lv r w))) := id rfl
theorem sX2_firstOutOfOrder_8 (lv : zL) (st : List Value) (w : zW) (nx K : Nat → zL → List Value → zW → Prop) (Rt : Option Value → zW → Prop) : z_st1 (tX2_firstOutOfOrder 8) 8 lv st w nx K Rt = (nx 9 lv (.int (1 : Int32) :: st) w) := id rfl
theorem sX2_firstOutOfOrder_9 (lv : zL) (st : List Value) (w : zW) (nx K : Nat → zL → List Value → zW → Prop) (Rt : Option Value → zW → Prop) : z_st1 (tX2_firstOutOfOrder 9) 9 lv st w nx K Rt = (z_1i st (fun x r => z_ok1 lv 4 = true ∧ nx 11 (lv.set 4 (some (.int x))) r w)) := id rfl
theorem sX2_firstOutOfOrder_11 (lv : zL) (st : List Value) (w : zW) (nx K : Nat → zL → List Value → zW → Prop) (Rt : Option Value → zW → Prop) : z_st1 (tX2_firstOutOfOrder 11) 11 lv st w nx K Rt = (z_li lv 4 (fun x => nx 13 lv (.int x :: st) w)) := id rfl
theorem sX2_firstOutOfOrder_13 (lv : zL) (st : List Value) (w : zW) (nx K : Nat → zL → List Value → zW → Prop) (Rt : Option Value → zW → Prop) : z_st1 (tX2_firstOutOfOrder 13) 13 lv st w nx K Rt = (z_la lv 0 (fun x => nx 14 lv (.ref x :: st) w)) := id rfl
theorem sX2_firstOutOfOrder_14 (lv : zL) (st : List Value) (w : zW) (nx K : Nat → zL → List Value → zW → Prop) (Rt : Option Value → zW → Prop) : z_st1 (tX2_firstOutOfOrder 14) 14 lv st w nx K Rt = (z_1a st (fun x r => z_ob w x 3 (fun fs => z_fl fs 1 (fun u => nx 17 lv (u :: r) w)))) := id rfl
theorem sX2_firstOutOfOrder_17 (lv : zL) (st : List Value) (w : zW) (nx K : Nat → zL → List Value → zW → Prop) (Rt : Option Value → zW → Prop) : z_st1 (tX2_firstOutOfOrder 17) 17 lv st w nx K Rt = (z_li lv 3 (fun x => nx 18 lv (.int x :: st) w)) := id rfl
theorem sX2_firstOutOfOrder_18 (lv : zL) (st : List Value) (w : zW) (nx K : Nat → zL → List Value → zW → Prop) (Rt : Option Value → zW → Prop) : z_st1 (tX2_firstOutOfOrder 18) 18 lv st w nx K Rt = (z_ia st (fun x i r => z_ar0 w x (fun m g => vp_in i m ∧ nx 19 lv (.int (g i.toNatClampNeg) :: r) w))) := id rfl
theorem sX2_firstOutOfOrder_19 (lv : zL) (st : List Value) (w : zW) (nx K : Nat → zL → List Value → zW → Prop) (Rt : Option Value → zW → Prop) : z_st1 (tX2_firstOutOfOrder 19) 19 lv st w nx K Rt = (z_2i st (fun x y r => (y ≤ x → nx 58 lv r w) ∧ (¬ y ≤ x → nx 22 lv r w))) := id rfl
theorem sX2_firstOutOfOrder_22 (lv : zL) (st : List Value) (w : zW) (nx K : Nat → zL → List Value → zW → Prop) (Rt : Option Value → zW → Prop) : z_st1 (tX2_firstOutOfOrder 22) 22 lv st w nx K Rt = (z_la lv 2 (fun x => nx 23 lv (.ref x :: st) w)) := id rfl
theorem sX2_firstOutOfOrder_23 (lv : zL) (st : List Value) (w : zW) (nx K : Nat → zL → List Value → zW → Prop) (Rt : Option Value → zW → Prop) : z_st1 (tX2_firstOutOfOrder 23) 23 lv st w nx K Rt = (z_la lv 1 (fun x => nx 24 lv (.ref x :: st) w)) := id rfl
theorem sX2_firstOutOfOrder_24 (lv : zL) (st : List Value) (w : zW) (nx K : Nat → zL → List Value → zW → Prop) (Rt : Option Value → zW → Prop) : z_st1 (tX2_firstOutOfOrder 24) 24 lv st w nx K Rt = (z_la lv 0 (fun x => nx 25 lv (.ref x :: st) w)) := id rfl
theorem sX2_firstOutOfOrder_25 (lv : zL) (st : List Value) (w : zW) (nx K : Nat → zL → List Value → zW → Prop) (Rt : Option Value → zW → Prop) : z_st1 (tX2_firstOutOfOrder 25) 25 lv st w nx K Rt = (z_li lv 3 (fun x => nx 26 lv (.int x :: st) w)) := id rfl
theorem sX2_firstOutOfOrder_26 (lv : zL) (st : List Value) (w : zW) (nx K : Nat → zL → List Value → zW → Prop) (Rt : Option Value → zW → Prop) : z_st1 (tX2_firstOutOfOrder 26) 26 lv st w nx K Rt = (z_li lv 4 (fun x => nx 28 lv (.int x :: st) w)) := id rfl
theorem sX2_firstOutOfOrder_28 (lv : zL) (st : List Value) (w : zW) (nx K : Nat → zL → List Value → zW → Prop) (Rt : Option Value → zW → Prop) : z_st1 (tX2_firstOutOfOrder 28) 28 lv st w nx K Rt = (nx 29 lv (.int (1 : Int32) :: st) w) := id rfl
theorem sX2_firstOutOfOrder_29 (lv : zL) (st : List Value) (w : zW) (nx K : Nat → zL → List Value → zW → Prop) (Rt : Option Value → zW → Prop) : z_st1 (tX2_firstOutOfOrder 29) 29 lv st w nx K Rt = (z_2i st (fun x y r => nx 30 lv (.int (x - y) :: r) w)) := id rfl
theorem sX2_firstOutOfOrder_33 (lv : zL) (st : List Value) (w : zW) (nx K : Nat → zL → List Value → zW → Prop) (Rt : Option Value → zW → Prop) : z_st1 (tX2_firstOutOfOrder 33) 33 lv st w nx K Rt = (nx 34 lv (.int (1 : Int32) :: st) w) := id rfl
theorem sX2_firstOutOfOrder_34 (lv : zL) (st : List Value) (w : zW) (nx K : Nat → zL → List Value → zW → Prop) (Rt : Option Value → zW → Prop) : z_st1 (tX2_firstOutOfOrder 34) 34 lv st w nx K Rt = (z_2i st (fun x y r => nx 35 lv (.int (x - y) :: r) w)) := id rfl
theorem sX2_firstOutOfOrder_35 (lv : zL) (st : List Value) (w : zW) (nx K : Nat → zL → List Value → zW → Prop) (Rt : Option Value → zW → Prop) : z_st1 (tX2_firstOutOfOrder 35) 35 lv st w nx K Rt = (z_la lv 0 (fun x => nx 36 lv (.ref x :: st) w)) := id rfl
theorem sX2_firstOutOfOrder_36 (lv : zL) (st : List Value) (w : zW) (nx K : Nat → zL → List Value → zW → Prop) (Rt : Option Value → zW → Prop) : z_st1 (tX2_firstOutOfOrder 36) 36 lv st w nx K Rt = (z_li lv 3 (fun x => nx 37 lv (.int x :: st) w)) := id rfl
theorem sX2_firstOutOfOrder_37 (lv : zL) (st : List Value) (w : zW) (nx K : Nat → zL → List Value → zW → Prop) (Rt : Option Value → zW → Prop) : z_st1 (tX2_firstOutOfOrder 37) 37 lv st w nx K Rt = (z_li lv 4 (fun x => nx 39 lv (.int x :: st) w)) := id rfl
theorem sX2_firstOutOfOrder_42 (lv : zL) (st : List Value) (w : zW) (nx K : Nat → zL → List Value → zW → Prop) (Rt : Option Value → zW → Prop) : z_st1 (tX2_firstOutOfOrder 42) 42 lv st w nx K Rt = (nx 43 lv (.int (1 : Int32) :: st) w) := id rfl
theorem sX2_firstOutOfOrder_43 (lv : zL) (st : List Value) (w : zW) (nx K : Nat → zL → List Value → zW → Prop) (Rt : Option Value → zW → Prop) : z_st1 (tX2_firstOutOfOrder 43) 43 lv st w nx K Rt = (z_2i st (fun x y r => nx 44 lv (.int (x - y) :: r) w)) := id rfl
theorem sX2_firstOutOfOrder_47 (lv : zL) (st : List Value) (w : zW) (nx K : Nat → zL → List Value → zW → Prop) (Rt : Option Value → zW → Prop) : z_st1 (tX2_firstOutOfOrder 47) 47 lv st w nx K Rt = (z_1i st (fun x r => (x ≤ 0 → nx 52 lv r w) ∧ (¬ x ≤ 0 → nx 50 lv r w))) := id rfl
theorem sX2_firstOutOfOrder_50 (lv : zL) (st : List Value) (w : zW) (nx K : Nat → zL → List Value → zW → Prop) (Rt : Option Value → zW → Prop) : z_st1 (tX2_firstOutOfOrder 50) 50 lv st w nx K Rt = (z_li lv 3 (fun x => nx 51 lv (.int x :: st) w)) := id rfl
theorem sX2_firstOutOfOrder_51 (lv : zL) (st : List Value) (w : zW) (nx K : Nat → zL → List Value → zW → Prop) (Rt : Option Value → zW → Prop) : z_st1 (tX2_firstOutOfOrder 51) 51 lv st w nx K Rt = (z_e1 st (fun x => Rt (some (.int x)) w)) := id rfl
theorem sX2_firstOutOfOrder_52 (lv : zL) (st : List Value) (w : zW) (nx K : Nat → zL → List Value → zW → Prop) (Rt : Option Value → zW → Prop) : z_st1 (tX2_firstOutOfOrder 52) 52 lv st w nx K Rt = (z_li lv 4 (fun x => z_ok1 lv 4 = true ∧ nx 55 (lv.set 4 (some (.int (x + (1 : Int32))))) st w)) := id rfl
theorem sX2_firstOutOfOrder_55 (lv : zL) (st : List Value) (w : zW) (nx K : Nat → zL → List Value → zW → Prop) (Rt : Option Value → zW → Prop) : z_st1 (tX2_firstOutOfOrder 55) 55 lv st w nx K Rt = (nx 11 lv st w) := id rfl
theorem sX2_firstOutOfOrder_58 (lv : zL) (st : List Value) (w : zW) (nx K : Nat → zL → List Value → zW → Prop) (Rt : Option Value → zW → Prop) : z_st1 (tX2_firstOutOfOrder 58) 58 lv st w nx K Rt = (z_li lv 3 (fun x => z_ok1 lv 3 = true ∧ nx 61 (lv.set 3 (some (.int (x + (1 : Int32))))) st w)) := id rfl
theorem sX2_firstOutOfOrder_61 (lv : zL) (st : List Value) (w : zW) (nx K : Nat → zL → List Value → zW → Prop) (Rt : Option Value → zW → Prop) : z_st1 (tX2_firstOutOfOrder 61) 61 lv st w nx K Rt = (nx 2 lv st w) := id rfl
theorem sX2_firstOutOfOrder_64 (lv : zL) (st : List Value) (w : zW) (nx K : Nat → zL → List Value → zW → Prop) (Rt : Option Value → zW → Prop) : z_st1 (tX2_firstOutOfOrder 64) 64 lv st w nx K Rt = (nx 65 lv (.int (-1 : Int32) :: st) w) := id rfl
theorem sX2_firstOutOfOrder_65 (lv : zL) (st : List Value) (w : zW) (nx K : Nat → zL → List Value → zW → Prop) (Rt : Option Value → zW → Prop) : z_st1 (tX2_firstOutOfOrder 65) 65 lv st w nx K Rt = (z_e1 st (fun x => Rt (some (.int x)) w)) := id rfl
theorem sX2_firstOutOfOrder_30 (lv : zL) (st : List Value) (w : zW) (nx K : Nat → zL → List Value → zW → Prop) (Rt : Option Value → zW → Prop) : z_st1 (tX2_firstOutOfOrder 30) 30 lv st w nx K Rt = K 30 lv st w := id rfl
theorem sX2_firstOutOfOrder_39 (lv : zL) (st : List Value) (w : zW) (nx K : Nat → zL → List Value → zW → Prop) (Rt : Option Value → zW → Prop) : z_st1 (tX2_firstOutOfOrder 39) 39 lv st w nx K Rt = K 39 lv st w := id rfl
theorem sX2_firstOutOfOrder_44 (lv : zL) (st : List Value) (w : zW) (nx K : Nat → zL → List Value → zW → Prop) (Rt : Option Value → zW → Prop) : z_st1 (tX2_firstOutOfOrder 44) 44 lv st w nx K Rt = K 44 lv st w := id rfl
theorem dX2_firstOutOfOrder_30 : decode cX2_firstOutOfOrder 30 = .ok (.invokevirtual 26, 3) := by decide +kernel
theorem dX2_firstOutOfOrder_39 : decode cX2_firstOutOfOrder 39 = .ok (.invokevirtual 26, 3) := by decide +kernel
theorem dX2_firstOutOfOrder_44 : decode cX2_firstOutOfOrder 44 = .ok (.invokevirtual 30, 3) := by decide +kernel

def tmX3_init (pc : Nat) : zI := match pc with
  | 0 => (1, 0, 0, 1, 0)
  | 4 => (1, 0, 0, 5, 0)
  | 5 => (6, 0, 0, 7, 8)
  | 12 => (1, 0, 0, 13, 0)
  | 13 => (6, 0, 0, 15, 8)
  | 20 => (1, 0, 0, 21, 0)
  | 21 => (6, 0, 0, 23, 8)
  | 28 => (1, 0, 0, 29, 0)
  | 29 => (6, 0, 0, 31, 8)
  | 36 => (55, 0, 0, 37, 0)
  | _ => (99, 0, 0, 0, 0)
def tX3_init (pc : Nat) : zI := if pc < 37 then tmX3_init pc else (99, 0, 0, 0, 0)
theorem tkX3_init : z_tab RX3 wsX3_init 1 none cX3_init 37 tX3_init := z_tab_of (tm := tmX3_init) (by decide +kernel)
theorem sX3_init_0 (lv : zL) (st : List Value) (w : zW) (nx K : Nat → zL → List Value → zW → Prop) (Rt : Option Value → zW → Prop) : z_st1 (tX3_init 0) 0 lv st w nx K Rt = (z_la lv 0 (fun x => nx 1 lv (.ref x :: st) w)) := id rfl
theorem sX3_init_4 (lv : zL) (st : List Value) (w : zW) (nx K : Nat → zL → List Value → zW → Prop) (Rt : Option Value → zW → Prop) : z_st1 (tX3_init 4) 4 lv st w nx K Rt = (z_la lv 0 (fun x => nx 5 lv (.ref x :: st) w)) := id rfl
theorem sX3_init_5 (lv : zL) (st : List Value) (w : zW) (nx K : Nat → zL → List Value → zW → Prop) (Rt : Option Value → zW → Prop) : z_st1 (tX3_init 5) 5 lv st w nx K Rt = (nx 7 lv (.int (8 : Int32) :: st) w) := id rfl
theorem sX3_init_12 (lv : zL) (st : List Value) (w : zW) (nx K : Nat → zL → List Value → zW → Prop) (Rt : Option Value → zW → Prop) : z_st1 (tX3_init 12) 12 lv st w nx K Rt = (z_la lv 0 (fun x => nx 13 lv (.ref x :: st) w)) := id rfl
theorem sX3_init_13 (lv : zL) (st : List Value) (w : zW) (nx K : Nat → zL → List Value → zW → Prop) (Rt : Option Value → zW → Prop) : z_st1 (tX3_init 13) 13 lv st w nx K Rt = (nx 15 lv (.int (8 : Int32) :: st) w) := id rfl
theorem sX3_init_20 (lv : zL) (st : List Value) (w : zW) (nx K : Nat → zL → List Value → zW → Prop) (Rt : Option Value → zW → Prop) : z_st1 (tX3_init 20) 20 lv st w nx K Rt = (z_la lv 0 (fun x => nx 21 lv (.ref x :: st) w)) := id rfl
theorem sX3_init_21 (lv : zL) (st : List Value) (w : zW) (nx K : Nat → zL → List Value → zW → Prop) (Rt : Option Value → zW → Prop) : z_st1 (tX3_init 21) 21 lv st w nx K Rt = (nx 23 lv (.int (8 : Int32) :: st) w) := id rfl
theorem sX3_init_28 (lv : zL) (st : List Value) (w : zW) (nx K : Nat → zL → List Value → zW → Prop) (Rt : Option Value → zW → Prop) : z_st1 (tX3_init 28) 28 lv st w nx K Rt = (z_la lv 0 (fun x => nx 29 lv (.ref x :: st) w)) := id rfl
theorem sX3_init_29 (lv : zL) (st : List Value) (w : zW) (nx K : Nat → zL → List Value → zW → Prop) (Rt : Option Value → zW → Prop) : z_st1 (tX3_init 29) 29 lv st w nx K Rt = (nx 31 lv (.int (8 : Int32) :: st) w) := id rfl
theorem sX3_init_36 (lv : zL) (st : List Value) (w : zW) (nx K : Nat → zL → List Value → zW → Prop) (Rt : Option Value → zW → Prop) : z_st1 (tX3_init 36) 36 lv st w nx K Rt = (z_e0 st (Rt none w)) := id rfl
theorem sX3_init_1 (lv : zL) (st : List Value) (w : zW) (nx K : Nat → zL → List Value → zW → Prop) (Rt : Option Value → zW → Prop) : z_st1 (tX3_init 1) 1 lv st w nx K Rt = K 1 lv st w := id rfl
theorem sX3_init_7 (lv : zL) (st : List Value) (w : zW) (nx K : Nat → zL → List Value → zW → Prop) (Rt : Option Value → zW → Prop) : z_st1 (tX3_init 7) 7 lv st w nx K Rt = K 7 lv st w := id rfl
theorem sX3_init_9 (lv : zL) (st : List Value) (w : zW) (nx K : Nat → zL → List Value → zW → Prop) (Rt : Option Value → zW → Prop) : z_st1 (tX3_init 9) 9 lv st w nx K Rt = K 9 lv st w := id rfl
theorem sX3_init_15 (lv : zL) (st : List Value) (w : zW) (nx K : Nat → zL → List Value → zW → Prop) (Rt : Option Value → zW → Prop) : z_st1 (tX3_init 15) 15 lv st w nx K Rt = K 15 lv st w := id rfl
theorem sX3_init_17 (lv : zL) (st : List Value) (w : zW) (nx K : Nat → zL → List Value → zW → Prop) (Rt : Option Value → zW → Prop) : z_st1 (tX3_init 17) 17 lv st w nx K Rt = K 17 lv st w := id rfl
theorem sX3_init_23 (lv : zL) (st : List Value) (w : zW) (nx K : Nat → zL → List Value → zW → Prop) (Rt : Option Value → zW → Prop) : z_st1 (tX3_init 23) 23 lv st w nx K Rt = K 23 lv st w := id rfl
theorem sX3_init_25 (lv : zL) (st : List Value) (w : zW) (nx K : Nat → zL → List Value → zW → Prop) (Rt : Option Value → zW → Prop) : z_st1 (tX3_init 25) 25 lv st w nx K Rt = K 25 lv st w := id rfl
theorem sX3_init_31 (lv : zL) (st : List Value) (w : zW) (nx K : Nat → zL → List Value → zW → Prop) (Rt : Option Value → zW → Prop) : z_st1 (tX3_init 31) 31 lv st w nx K Rt = K 31 lv st w := id rfl
theorem sX3_init_33 (lv : zL) (st : List Value) (w : zW) (nx K : Nat → zL → List Value → zW → Prop) (Rt : Option Value → zW → Prop) : z_st1 (tX3_init 33) 33 lv st w nx K Rt = K 33 lv st w := id rfl
theorem dX3_init_1 : decode cX3_init 1 = .ok (.invokespecial 3, 3) := by decide +kernel
theorem dX3_init_7 : decode cX3_init 7 = .ok (.newarray .int, 2) := by decide +kernel
theorem dX3_init_9 : decode cX3_init 9 = .ok (.putfield 9, 3) := by decide +kernel
theorem dX3_init_15 : decode cX3_init 15 = .ok (.newarray .int, 2) := by decide +kernel
theorem dX3_init_17 : decode cX3_init 17 = .ok (.putfield 15, 3) := by decide +kernel
theorem dX3_init_23 : decode cX3_init 23 = .ok (.newarray .int, 2) := by decide +kernel
theorem dX3_init_25 : decode cX3_init 25 = .ok (.putfield 18, 3) := by decide +kernel
theorem dX3_init_31 : decode cX3_init 31 = .ok (.newarray .boolean, 2) := by decide +kernel
theorem dX3_init_33 : decode cX3_init 33 = .ok (.putfield 21, 3) := by decide +kernel

def tmX3_allows (pc : Nat) : zI := match pc with
  | 0 => (0, 2, 0, 1, 0)
  | 1 => (36, 29, 0, 4, 0)
  | 4 => (0, 2, 0, 5, 0)
  | 8 => (52, 0, 0, 9, 0)
  | 9 => (43, 29, 0, 12, 0)
  | 12 => (0, 0, 0, 13, 0)
  | 13 => (0, 1, 0, 14, 0)
  | 17 => (0, 2, 0, 18, 0)
  | 18 => (48, 0, 0, 19, 0)
  | 22 => (34, 29, 0, 25, 0)
  | 25 => (6, 0, 0, 26, 1)
  | 26 => (33, 30, 0, 29, 0)
  | 29 => (6, 0, 0, 30, 0)
  | 30 => (58, 0, 0, 31, 0)
  | _ => (99, 0, 0, 0, 0)
def tX3_allows (pc : Nat) : zI := if pc < 31 then tmX3_allows pc else (99, 0, 0, 0, 0)
theorem tkX3_allows : z_tab RX3 wsX3_allows 3 (some .boolean) cX3_allows 31 tX3_allows := z_tab_of (tm := tmX3_allows) (by decide +kernel)
theorem sX3_allows_0 (lv : zL) (st : List Value) (w : zW) (nx K : Nat → zL → List Value → zW → Prop) (Rt : Option Value → zW → Prop) : z_st1 (tX3_allows 0) 0 lv st w nx K Rt = (z_li lv 2 (fun x => nx 1 lv (.int x :: st) w)) := id rfl
theorem sX3_allows_1 (lv : zL) (st : List Value) (w : zW) (nx K : Nat → zL → List Value → zW → Prop) (Rt : Option Value → zW → Prop) : z_st1 (tX3_allows 1) 1 lv st w nx K Rt = (z_1i st (fun x r => (x < 0 → nx 29 lv r w) ∧ (¬ x < 0 → nx 4 lv r w))) := id rfl
theorem sX3_allows_4 (lv : zL) (st : List Value) (w : zW) (nx K : Nat → zL → List Value → zW → Prop) (Rt : Option Value → zW → Prop) : z_st1 (tX3_allows 4) 4 lv st w nx K Rt = (z_li lv 2 (fun x => nx 5 lv (.int x :: st) w)) := id rfl
theorem sX3_allows_8 (lv : zL) (st : List Value) (w : zW) (nx K : Nat → zL → List Value → zW → Prop) (Rt : Option Value → zW → Prop) : z_st1 (tX3_allows 8) 8 lv st w nx K Rt = (z_1a st (fun x r => z_ar0 w x (fun m _ => nx 9 lv (.int (Int32.ofNat m) :: r) w))) := id rfl
theorem sX3_allows_9 (lv : zL) (st : List Value) (w : zW) (nx K : Nat → zL → List Value → zW → Prop) (Rt : Option Value → zW → Prop) : z_st1 (tX3_allows 9) 9 lv st w nx K Rt = (z_2i st (fun x y r => (y ≤ x → nx 29 lv r w) ∧ (¬ y ≤ x → nx 12 lv r w))) := id rfl
theorem sX3_allows_12 (lv : zL) (st : List Value) (w : zW) (nx K : Nat → zL → List Value → zW → Prop) (Rt : Option Value → zW → Prop) : z_st1 (tX3_allows 12) 12 lv st w nx K Rt = (z_li lv 0 (fun x => nx 13 lv (.int x :: st) w)) := id rfl
theorem sX3_allows_13 (lv : zL) (st : List Value) (w : zW) (nx K : Nat → zL → List Value → zW → Prop) (Rt : Option Value → zW → Prop) : z_st1 (tX3_allows 13) 13 lv st w nx K Rt = (z_li lv 1 (fun x => nx 14 lv (.int x :: st) w)) := id rfl
theorem sX3_allows_17 (lv : zL) (st : List Value) (w : zW) (nx K : Nat → zL → List Value → zW → Prop) (Rt : Option Value → zW → Prop) : z_st1 (tX3_allows 17) 17 lv st w nx K Rt = (z_li lv 2 (fun x => nx 18 lv (.int x :: st) w)) := id rfl
theorem sX3_allows_18 (lv : zL) (st : List Value) (w : zW) (nx K : Nat → zL → List Value → zW → Prop) (Rt : Option Value → zW → Prop) : z_st1 (tX3_allows 18) 18 lv st w nx K Rt = (z_ia st (fun x i r => z_ar0 w x (fun m g => vp_in i m ∧ nx 19 lv (.int (g i.toNatClampNeg) :: r) w))) := id rfl
theorem sX3_allows_22 (lv : zL) (st : List Value) (w : zW) (nx K : Nat → zL → List Value → zW → Prop) (Rt : Option Value → zW → Prop) : z_st1 (tX3_allows 22) 22 lv st w nx K Rt = (z_1i st (fun x r => (x = 0 → nx 29 lv r w) ∧ (¬ x = 0 → nx 25 lv r w))) := id rfl
theorem sX3_allows_25 (lv : zL) (st : List Value) (w : zW) (nx K : Nat → zL → List Value → zW → Prop) (Rt : Option Value → zW → Prop) : z_st1 (tX3_allows 25) 25 lv st w nx K Rt = (nx 26 lv (.int (1 : Int32) :: st) w) := id rfl
theorem sX3_allows_26 (lv : zL) (st : List Value) (w : zW) (nx K : Nat → zL → List Value → zW → Prop) (Rt : Option Value → zW → Prop) : z_st1 (tX3_allows 26) 26 lv st w nx K Rt = (nx 30 lv st w) := id rfl
theorem sX3_allows_29 (lv : zL) (st : List Value) (w : zW) (nx K : Nat → zL → List Value → zW → Prop) (Rt : Option Value → zW → Prop) : z_st1 (tX3_allows 29) 29 lv st w nx K Rt = (nx 30 lv (.int (0 : Int32) :: st) w) := id rfl
theorem sX3_allows_30 (lv : zL) (st : List Value) (w : zW) (nx K : Nat → zL → List Value → zW → Prop) (Rt : Option Value → zW → Prop) : z_st1 (tX3_allows 30) 30 lv st w nx K Rt = (z_e1 st (fun x => (x = 0 ∨ x = 1) ∧ Rt (some (.int x)) w)) := id rfl
theorem sX3_allows_5 (lv : zL) (st : List Value) (w : zW) (nx K : Nat → zL → List Value → zW → Prop) (Rt : Option Value → zW → Prop) : z_st1 (tX3_allows 5) 5 lv st w nx K Rt = K 5 lv st w := id rfl
theorem sX3_allows_14 (lv : zL) (st : List Value) (w : zW) (nx K : Nat → zL → List Value → zW → Prop) (Rt : Option Value → zW → Prop) : z_st1 (tX3_allows 14) 14 lv st w nx K Rt = K 14 lv st w := id rfl
theorem sX3_allows_19 (lv : zL) (st : List Value) (w : zW) (nx K : Nat → zL → List Value → zW → Prop) (Rt : Option Value → zW → Prop) : z_st1 (tX3_allows 19) 19 lv st w nx K Rt = K 19 lv st w := id rfl
theorem dX3_allows_5 : decode cX3_allows 5 = .ok (.getstatic 25, 3) := by decide +kernel
theorem dX3_allows_14 : decode cX3_allows 14 = .ok (.getstatic 25, 3) := by decide +kernel
theorem dX3_allows_19 : decode cX3_allows 19 = .ok (.invokestatic 28, 3) := by decide +kernel

def tmX3_told (pc : Nat) : zI := match pc with
  | 0 => (1, 0, 0, 1, 0)
  | 1 => (46, 4, 4, 4, 0)
  | 4 => (53, 0, 0, 5, 0)
  | _ => (99, 0, 0, 0, 0)
def tX3_told (pc : Nat) : zI := if pc < 5 then tmX3_told pc else (99, 0, 0, 0, 0)
theorem tkX3_told : z_tab RX3 wsX3_told 1 (some .int) cX3_told 5 tX3_told := z_tab_of (tm := tmX3_told) (by decide +kernel)
theorem sX3_told_0 (lv : zL) (st : List Value) (w : zW) (nx K : Nat → zL → List Value → zW → Prop) (Rt : Option Value → zW → Prop) : z_st1 (tX3_told 0) 0 lv st w nx K Rt = (z_la lv 0 (fun x => nx 1 lv (.ref x :: st) w)) := id rfl
theorem sX3_told_1 (lv : zL) (st : List Value) (w : zW) (nx K : Nat → zL → List Value → zW → Prop) (Rt : Option Value → zW → Prop) : z_st1 (tX3_told 1) 1 lv st w nx K Rt = (z_1a st (fun x r => z_ob w x 4 (fun fs => z_fl fs 4 (fun u => nx 4 lv (u :: r) w)))) := id rfl
theorem sX3_told_4 (lv : zL) (st : List Value) (w : zW) (nx K : Nat → zL → List Value → zW → Prop) (Rt : Option Value → zW → Prop) : z_st1 (tX3_told 4) 4 lv st w nx K Rt = (z_e1 st (fun x => Rt (some (.int x)) w)) := id rfl

def tmX3_tell (pc : Nat) : zI := match pc with
  | 0 => (1, 0, 0, 1, 0)
  | 1 => (46, 4, 4, 4, 0)
  | 4 => (6, 0, 0, 6, 8)
  | 6 => (42, 11, 0, 9, 0)
  | 9 => (6, 0, 0, 10, (-1))
  | 10 => (53, 0, 0, 11, 0)
  | 11 => (1, 0, 0, 12, 0)
  | 12 => (46, 4, 0, 15, 0)
  | 15 => (1, 0, 0, 16, 0)
  | 16 => (46, 4, 4, 19, 0)
  | 19 => (0, 1, 0, 20, 0)
  | 20 => (49, 0, 0, 21, 0)
  | 21 => (1, 0, 0, 22, 0)
  | 22 => (46, 4, 1, 25, 0)
  | 25 => (1, 0, 0, 26, 0)
  | 26 => (46, 4, 4, 29, 0)
  | 29 => (0, 2, 0, 30, 0)
  | 30 => (49, 0, 0, 31, 0)
  | 31 => (1, 0, 0, 32, 0)
  | 32 => (46, 4, 2, 35, 0)
  | 35 => (1, 0, 0, 36, 0)
  | 36 => (46, 4, 4, 39, 0)
  | 39 => (0, 3, 0, 40, 0)
  | 40 => (49, 0, 0, 41, 0)
  | 41 => (1, 0, 0, 42, 0)
  | 42 => (46, 4, 3, 45, 0)
  | 45 => (1, 0, 0, 46, 0)
  | 46 => (46, 4, 4, 49, 0)
  | 49 => (0, 4, 0, 51, 0)
  | 51 => (51, 0, 0, 52, 0)
  | 52 => (1, 0, 0, 53, 0)
  | 53 => (29, 0, 0, 54, 0)
  | 54 => (46, 4, 4, 57, 0)
  | 57 => (6, 0, 0, 58, 1)
  | 58 => (8, 0, 0, 59, 0)
  | 59 => (47, 4, 4, 62, 0)
  | 62 => (1, 0, 0, 63, 0)
  | 63 => (46, 4, 4, 66, 0)
  | 66 => (53, 0, 0, 67, 0)
  | _ => (99, 0, 0, 0, 0)
def tX3_tell (pc : Nat) : zI := if pc < 67 then tmX3_tell pc else (99, 0, 0, 0, 0)
theorem tkX3_tell : z_tab RX3 wsX3_tell 5 (some .int) cX3_tell 67 tX3_tell := z_tab_of (tm := tmX3_tell) (by decide +kernel)
theorem sX3_tell_0 (lv : zL) (st : List Value) (w : zW) (nx K : Nat → zL → List Value → zW → Prop) (Rt : Option Value → zW → Prop) : z_st1 (tX3_tell 0) 0 lv st w nx K Rt = (z_la lv 0 (fun x => nx 1 lv (.ref x :: st) w)) := id rfl
theorem sX3_tell_1 (lv : zL) (st : List Value) (w : zW) (nx K : Nat → zL → List Value → zW → Prop) (Rt : Option Value → zW → Prop) : z_st1 (tX3_tell 1) 1 lv st w nx K Rt = (z_1a st (fun x r => z_ob w x 4 (fun fs => z_fl fs 4 (fun u => nx 4 lv (u :: r) w)))) := id rfl
theorem sX3_tell_4 (lv : zL) (st : List Value) (w : zW) (nx K : Nat → zL → List Value → zW → Prop) (Rt : Option Value → zW → Prop) : z_st1 (tX3_tell 4) 4 lv st w nx K Rt = (nx 6 lv (.int (8 : Int32) :: st) w) := id rfl
theorem sX3_tell_6 (lv : zL) (st : List Value) (w : zW) (nx K : Nat → zL → List Value → zW → Prop) (Rt : Option Value → zW → Prop) : z_st1 (tX3_tell 6) 6 lv st w nx K Rt = (z_2i st (fun x y r => (x < y → nx 11 lv r w) ∧ (¬ x < y → nx 9 lv r w))) := id rfl
theorem sX3_tell_9 (lv : zL) (st : List Value) (w : zW) (nx K : Nat → zL → List Value → zW → Prop) (Rt : Option Value → zW → Prop) : z_st1 (tX3_tell 9) 9 lv st w nx K Rt = (nx 10 lv (.int (-1 : Int32) :: st) w) := id rfl
theorem sX3_tell_10 (lv : zL) (st : List Value) (w : zW) (nx K : Nat → zL → List Value → zW → Prop) (Rt : Option Value → zW → Prop) : z_st1 (tX3_tell 10) 10 lv st w nx K Rt = (z_e1 st (fun x => Rt (some (.int x)) w)) := id rfl
theorem sX3_tell_11 (lv : zL) (st : List Value) (w : zW) (nx K : Nat → zL → List Value → zW → Prop) (Rt : Option Value → zW → Prop) : z_st1 (tX3_tell 11) 11 lv st w nx K Rt = (z_la lv 0 (fun x => nx 12 lv (.ref x :: st) w)) := id rfl
theorem sX3_tell_12 (lv : zL) (st : List Value) (w : zW) (nx K : Nat → zL → List Value → zW → Prop) (Rt : Option Value → zW → Prop) : z_st1 (tX3_tell 12) 12 lv st w nx K Rt = (z_1a st (fun x r => z_ob w x 4 (fun fs => z_fl fs 0 (fun u => nx 15 lv (u :: r) w)))) := id rfl
theorem sX3_tell_15 (lv : zL) (st : List Value) (w : zW) (nx K : Nat → zL → List Value → zW → Prop) (Rt : Option Value → zW → Prop) : z_st1 (tX3_tell 15) 15 lv st w nx K Rt = (z_la lv 0 (fun x => nx 16 lv (.ref x :: st) w)) := id rfl
theorem sX3_tell_16 (lv : zL) (st : List Value) (w : zW) (nx K : Nat → zL → List Value → zW → Prop) (Rt : Option Value → zW → Prop) : z_st1 (tX3_tell 16) 16 lv st w nx K Rt = (z_1a st (fun x r => z_ob w x 4 (fun fs => z_fl fs 4 (fun u => nx 19 lv (u :: r) w)))) := id rfl
theorem sX3_tell_19 (lv : zL) (st : List Value) (w : zW) (nx K : Nat → zL → List Value → zW → Prop) (Rt : Option Value → zW → Prop) : z_st1 (tX3_tell 19) 19 lv st w nx K Rt = (z_li lv 1 (fun x => nx 20 lv (.int x :: st) w)) := id rfl
theorem sX3_tell_20 (lv : zL) (st : List Value) (w : zW) (nx K : Nat → zL → List Value → zW → Prop) (Rt : Option Value → zW → Prop) : z_st1 (tX3_tell 20) 20 lv st w nx K Rt = (z_iia st (fun x i u r => z_ar0 w x (fun m g => vp_in i m ∧ nx 21 lv r (z_up w x (.inl (0, m, .inl (upd g i.toNatClampNeg u))))))) := id rfl
theorem sX3_tell_21 (lv : zL) (st : List Value) (w : zW) (nx K : Nat → zL → List Value → zW → Prop) (Rt : Option Value → zW → Prop) : z_st1 (tX3_tell 21) 21 lv st w nx K Rt = (z_la lv 0 (fun x => nx 22 lv (.ref x :: st) w)) := id rfl
theorem sX3_tell_22 (lv : zL) (st : List Value) (w : zW) (nx K : Nat → zL → List Value → zW → Prop) (Rt : Option Value → zW → Prop) : z_st1 (tX3_tell 22) 22 lv st w nx K Rt = (z_1a st (fun x r => z_ob w x 4 (fun fs => z_fl fs 1 (fun u => nx 25 lv (u :: r) w)))) := id rfl
theorem sX3_tell_25 (lv : zL) (st : List Value) (w : zW) (nx K : Nat → zL → List Value → zW → Prop) (Rt : Option Value → zW → Prop) : z_st1 (tX3_tell 25) 25 lv st w nx K Rt = (z_la lv 0 (fun x => nx 26 lv (.ref x :: st) w)) := id rfl
theorem sX3_tell_26 (lv : zL) (st : List Value) (w : zW) (nx K : Nat → zL → List Value → zW → Prop) (Rt : Option Value → zW → Prop) : z_st1 (tX3_tell 26) 26 lv st w nx K Rt = (z_1a st (fun x r => z_ob w x 4 (fun fs => z_fl fs 4 (fun u => nx 29 lv (u :: r) w)))) := id rfl
theorem sX3_tell_29 (lv : zL) (st : List Value) (w : zW) (nx K : Nat → zL → List Value → zW → Prop) (Rt : Option Value → zW → Prop) : z_st1 (tX3_tell 29) 29 lv st w nx K Rt = (z_li lv 2 (fun x => nx 30 lv (.int x :: st) w)) := id rfl
theorem sX3_tell_30 (lv : zL) (st : List Value) (w : zW) (nx K : Nat → zL → List Value → zW → Prop) (Rt : Option Value → zW → Prop) : z_st1 (tX3_tell 30) 30 lv st w nx K Rt = (z_iia st (fun x i u r => z_ar0 w x (fun m g => vp_in i m ∧ nx 31 lv r (z_up w x (.inl (0, m, .inl (upd g i.toNatClampNeg u))))))) := id rfl
theorem sX3_tell_31 (lv : zL) (st : List Value) (w : zW) (nx K : Nat → zL → List Value → zW → Prop) (Rt : Option Value → zW → Prop) : z_st1 (tX3_tell 31) 31 lv st w nx K Rt = (z_la lv 0 (fun x => nx 32 lv (.ref x :: st) w)) := id rfl
theorem sX3_tell_32 (lv : zL) (st : List Value) (w : zW) (nx K : Nat → zL → List Value → zW → Prop) (Rt : Option Value → zW → Prop) : z_st1 (tX3_tell 32) 32 lv st w nx K Rt = (z_1a st (fun x r => z_ob w x 4 (fun fs => z_fl fs 2 (fun u => nx 35 lv (u :: r) w)))) := id rfl
theorem sX3_tell_35 (lv : zL) (st : List Value) (w : zW) (nx K : Nat → zL → List Value → zW → Prop) (Rt : Option Value → zW → Prop) : z_st1 (tX3_tell 35) 35 lv st w nx K Rt = (z_la lv 0 (fun x => nx 36 lv (.ref x :: st) w)) := id rfl
theorem sX3_tell_36 (lv : zL) (st : List Value) (w : zW) (nx K : Nat → zL → List Value → zW → Prop) (Rt : Option Value → zW → Prop) : z_st1 (tX3_tell 36) 36 lv st w nx K Rt = (z_1a st (fun x r => z_ob w x 4 (fun fs => z_fl fs 4 (fun u => nx 39 lv (u :: r) w)))) := id rfl
theorem sX3_tell_39 (lv : zL) (st : List Value) (w : zW) (nx K : Nat → zL → List Value → zW → Prop) (Rt : Option Value → zW → Prop) : z_st1 (tX3_tell 39) 39 lv st w nx K Rt = (z_li lv 3 (fun x => nx 40 lv (.int x :: st) w)) := id rfl
theorem sX3_tell_40 (lv : zL) (st : List Value) (w : zW) (nx K : Nat → zL → List Value → zW → Prop) (Rt : Option Value → zW → Prop) : z_st1 (tX3_tell 40) 40 lv st w nx K Rt = (z_iia st (fun x i u r => z_ar0 w x (fun m g => vp_in i m ∧ nx 41 lv r (z_up w x (.inl (0, m, .inl (upd g i.toNatClampNeg u))))))) := id rfl
theorem sX3_tell_41 (lv : zL) (st : List Value) (w : zW) (nx K : Nat → zL → List Value → zW → Prop) (Rt : Option Value → zW → Prop) : z_st1 (tX3_tell 41) 41 lv st w nx K Rt = (z_la lv 0 (fun x => nx 42 lv (.ref x :: st) w)) := id rfl
theorem sX3_tell_42 (lv : zL) (st : List Value) (w : zW) (nx K : Nat → zL → List Value → zW → Prop) (Rt : Option Value → zW → Prop) : z_st1 (tX3_tell 42) 42 lv st w nx K Rt = (z_1a st (fun x r => z_ob w x 4 (fun fs => z_fl fs 3 (fun u => nx 45 lv (u :: r) w)))) := id rfl
theorem sX3_tell_45 (lv : zL) (st : List Value) (w : zW) (nx K : Nat → zL → List Value → zW → Prop) (Rt : Option Value → zW → Prop) : z_st1 (tX3_tell 45) 45 lv st w nx K Rt = (z_la lv 0 (fun x => nx 46 lv (.ref x :: st) w)) := id rfl
theorem sX3_tell_46 (lv : zL) (st : List Value) (w : zW) (nx K : Nat → zL → List Value → zW → Prop) (Rt : Option Value → zW → Prop) : z_st1 (tX3_tell 46) 46 lv st w nx K Rt = (z_1a st (fun x r => z_ob w x 4 (fun fs => z_fl fs 4 (fun u => nx 49 lv (u :: r) w)))) := id rfl
theorem sX3_tell_49 (lv : zL) (st : List Value) (w : zW) (nx K : Nat → zL → List Value → zW → Prop) (Rt : Option Value → zW → Prop) : z_st1 (tX3_tell 49) 49 lv st w nx K Rt = (z_li lv 4 (fun x => nx 51 lv (.int x :: st) w)) := id rfl
theorem sX3_tell_51 (lv : zL) (st : List Value) (w : zW) (nx K : Nat → zL → List Value → zW → Prop) (Rt : Option Value → zW → Prop) : z_st1 (tX3_tell 51) 51 lv st w nx K Rt = (z_iia st (fun x i u r => z_ar1 w x (fun m g => vp_in i m ∧ nx 52 lv r (z_up w x (.inl (1, m, .inl (upd g i.toNatClampNeg (vp_nar .boolean u)))))))) := id rfl
theorem sX3_tell_52 (lv : zL) (st : List Value) (w : zW) (nx K : Nat → zL → List Value → zW → Prop) (Rt : Option Value → zW → Prop) : z_st1 (tX3_tell 52) 52 lv st w nx K Rt = (z_la lv 0 (fun x => nx 53 lv (.ref x :: st) w)) := id rfl
theorem sX3_tell_53 (lv : zL) (st : List Value) (w : zW) (nx K : Nat → zL → List Value → zW → Prop) (Rt : Option Value → zW → Prop) : z_st1 (tX3_tell 53) 53 lv st w nx K Rt = (z_d1 st (fun x r => nx 54 lv (x :: x :: r) w)) := id rfl
theorem sX3_tell_54 (lv : zL) (st : List Value) (w : zW) (nx K : Nat → zL → List Value → zW → Prop) (Rt : Option Value → zW → Prop) : z_st1 (tX3_tell 54) 54 lv st w nx K Rt = (z_1a st (fun x r => z_ob w x 4 (fun fs => z_fl fs 4 (fun u => nx 57 lv (u :: r) w)))) := id rfl
theorem sX3_tell_57 (lv : zL) (st : List Value) (w : zW) (nx K : Nat → zL → List Value → zW → Prop) (Rt : Option Value → zW → Prop) : z_st1 (tX3_tell 57) 57 lv st w nx K Rt = (nx 58 lv (.int (1 : Int32) :: st) w) := id rfl
theorem sX3_tell_58 (lv : zL) (st : List Value) (w : zW) (nx K : Nat → zL → List Value → zW → Prop) (Rt : Option Value → zW → Prop) : z_st1 (tX3_tell 58) 58 lv st w nx K Rt = (z_2i st (fun x y r => nx 59 lv (.int (x + y) :: r) w)) := id rfl
theorem sX3_tell_59 (lv : zL) (st : List Value) (w : zW) (nx K : Nat → zL → List Value → zW → Prop) (Rt : Option Value → zW → Prop) : z_st1 (tX3_tell 59) 59 lv st w nx K Rt = (z_ia st (fun x i r => z_ob w x 4 (fun fs => 4 < fs.length ∧ nx 62 lv r (z_up w x (.inr (4, fs.set 4 (.int i))))))) := id rfl
theorem sX3_tell_62 (lv : zL) (st : List Value) (w : zW) (nx K : Nat → zL → List Value → zW → Prop) (Rt : Option Value → zW → Prop) : z_st1 (tX3_tell 62) 62 lv st w nx K Rt = (z_la lv 0 (fun x => nx 63 lv (.ref x :: st) w)) := id rfl
theorem sX3_tell_63 (lv : zL) (st : List Value) (w : zW) (nx K : Nat → zL → List Value → zW → Prop) (Rt : Option Value → zW → Prop) : z_st1 (tX3_tell 63) 63 lv st w nx K Rt = (z_1a st (fun x r => z_ob w x 4 (fun fs => z_fl fs 4 (fun u => nx 66 lv (u :: r) w)))) := id rfl
theorem sX3_tell_66 (lv : zL) (st : List Value) (w : zW) (nx K : Nat → zL → List Value → zW → Prop) (Rt : Option Value → zW → Prop) : z_st1 (tX3_tell 66) 66 lv st w nx K Rt = (z_e1 st (fun x => Rt (some (.int x)) w)) := id rfl

def tmX4_init (pc : Nat) : zI := match pc with
  | 0 => (1, 0, 0, 1, 0)
  | 4 => (1, 0, 0, 5, 0)
  | 5 => (6, 0, 0, 8, 1600)
  | 13 => (1, 0, 0, 14, 0)
  | 14 => (6, 0, 0, 17, 1600)
  | 22 => (1, 0, 0, 23, 0)
  | 23 => (6, 0, 0, 26, 1601)
  | 31 => (1, 0, 0, 32, 0)
  | 32 => (6, 0, 0, 34, 16)
  | 39 => (1, 0, 0, 40, 0)
  | 40 => (1, 1, 0, 41, 0)
  | 44 => (1, 0, 0, 45, 0)
  | 45 => (1, 2, 0, 46, 0)
  | 49 => (55, 0, 0, 50, 0)
  | _ => (99, 0, 0, 0, 0)
def tX4_init (pc : Nat) : zI := if pc < 50 then tmX4_init pc else (99, 0, 0, 0, 0)
theorem tkX4_init : z_tab RX4 wsX4_init 3 none cX4_init 50 tX4_init := z_tab_of (tm := tmX4_init) (by decide +kernel)
theorem sX4_init_0 (lv : zL) (st : List Value) (w : zW) (nx K : Nat → zL → List Value → zW → Prop) (Rt : Option Value → zW → Prop) : z_st1 (tX4_init 0) 0 lv st w nx K Rt = (z_la lv 0 (fun x => nx 1 lv (.ref x :: st) w)) := id rfl
theorem sX4_init_4 (lv : zL) (st : List Value) (w : zW) (nx K : Nat → zL → List Value → zW → Prop) (Rt : Option Value → zW → Prop) : z_st1 (tX4_init 4) 4 lv st w nx K Rt = (z_la lv 0 (fun x => nx 5 lv (.ref x :: st) w)) := id rfl
theorem sX4_init_5 (lv : zL) (st : List Value) (w : zW) (nx K : Nat → zL → List Value → zW → Prop) (Rt : Option Value → zW → Prop) : z_st1 (tX4_init 5) 5 lv st w nx K Rt = (nx 8 lv (.int (1600 : Int32) :: st) w) := id rfl
theorem sX4_init_13 (lv : zL) (st : List Value) (w : zW) (nx K : Nat → zL → List Value → zW → Prop) (Rt : Option Value → zW → Prop) : z_st1 (tX4_init 13) 13 lv st w nx K Rt = (z_la lv 0 (fun x => nx 14 lv (.ref x :: st) w)) := id rfl
theorem sX4_init_14 (lv : zL) (st : List Value) (w : zW) (nx K : Nat → zL → List Value → zW → Prop) (Rt : Option Value → zW → Prop) : z_st1 (tX4_init 14) 14 lv st w nx K Rt = (nx 17 lv (.int (1600 : Int32) :: st) w) := id rfl
theorem sX4_init_22 (lv : zL) (st : List Value) (w : zW) (nx K : Nat → zL → List Value → zW → Prop) (Rt : Option Value → zW → Prop) : z_st1 (tX4_init 22) 22 lv st w nx K Rt = (z_la lv 0 (fun x => nx 23 lv (.ref x :: st) w)) := id rfl
theorem sX4_init_23 (lv : zL) (st : List Value) (w : zW) (nx K : Nat → zL → List Value → zW → Prop) (Rt : Option Value → zW → Prop) : z_st1 (tX4_init 23) 23 lv st w nx K Rt = (nx 26 lv (.int (1601 : Int32) :: st) w) := id rfl
theorem sX4_init_31 (lv : zL) (st : List Value) (w : zW) (nx K : Nat → zL → List Value → zW → Prop) (Rt : Option Value → zW → Prop) : z_st1 (tX4_init 31) 31 lv st w nx K Rt = (z_la lv 0 (fun x => nx 32 lv (.ref x :: st) w)) := id rfl
theorem sX4_init_32 (lv : zL) (st : List Value) (w : zW) (nx K : Nat → zL → List Value → zW → Prop) (Rt : Option Value → zW → Prop) : z_st1 (tX4_init 32) 32 lv st w nx K Rt = (nx 34 lv (.int (16 : Int32) :: st) w) := id rfl
theorem sX4_init_39 (lv : zL) (st : List Value) (w : zW) (nx K : Nat → zL → List Value → zW → Prop) (Rt : Option Value → zW → Prop) : z_st1 (tX4_init 39) 39 lv st w nx K Rt = (z_la lv 0 (fun x => nx 40 lv (.ref x :: st) w)) := id rfl
theorem sX4_init_40 (lv : zL) (st : List Value) (w : zW) (nx K : Nat → zL → List Value → zW → Prop) (Rt : Option Value → zW → Prop) : z_st1 (tX4_init 40) 40 lv st w nx K Rt = (z_la lv 1 (fun x => nx 41 lv (.ref x :: st) w)) := id rfl
theorem sX4_init_44 (lv : zL) (st : List Value) (w : zW) (nx K : Nat → zL → List Value → zW → Prop) (Rt : Option Value → zW → Prop) : z_st1 (tX4_init 44) 44 lv st w nx K Rt = (z_la lv 0 (fun x => nx 45 lv (.ref x :: st) w)) := id rfl
theorem sX4_init_45 (lv : zL) (st : List Value) (w : zW) (nx K : Nat → zL → List Value → zW → Prop) (Rt : Option Value → zW → Prop) : z_st1 (tX4_init 45) 45 lv st w nx K Rt = (z_la lv 2 (fun x => nx 46 lv (.ref x :: st) w)) := id rfl
theorem sX4_init_49 (lv : zL) (st : List Value) (w : zW) (nx K : Nat → zL → List Value → zW → Prop) (Rt : Option Value → zW → Prop) : z_st1 (tX4_init 49) 49 lv st w nx K Rt = (z_e0 st (Rt none w)) := id rfl
theorem sX4_init_1 (lv : zL) (st : List Value) (w : zW) (nx K : Nat → zL → List Value → zW → Prop) (Rt : Option Value → zW → Prop) : z_st1 (tX4_init 1) 1 lv st w nx K Rt = K 1 lv st w := id rfl
theorem sX4_init_8 (lv : zL) (st : List Value) (w : zW) (nx K : Nat → zL → List Value → zW → Prop) (Rt : Option Value → zW → Prop) : z_st1 (tX4_init 8) 8 lv st w nx K Rt = K 8 lv st w := id rfl
theorem sX4_init_10 (lv : zL) (st : List Value) (w : zW) (nx K : Nat → zL → List Value → zW → Prop) (Rt : Option Value → zW → Prop) : z_st1 (tX4_init 10) 10 lv st w nx K Rt = K 10 lv st w := id rfl
theorem sX4_init_17 (lv : zL) (st : List Value) (w : zW) (nx K : Nat → zL → List Value → zW → Prop) (Rt : Option Value → zW → Prop) : z_st1 (tX4_init 17) 17 lv st w nx K Rt = K 17 lv st w := id rfl
theorem sX4_init_19 (lv : zL) (st : List Value) (w : zW) (nx K : Nat → zL → List Value → zW → Prop) (Rt : Option Value → zW → Prop) : z_st1 (tX4_init 19) 19 lv st w nx K Rt = K 19 lv st w := id rfl
theorem sX4_init_26 (lv : zL) (st : List Value) (w : zW) (nx K : Nat → zL → List Value → zW → Prop) (Rt : Option Value → zW → Prop) : z_st1 (tX4_init 26) 26 lv st w nx K Rt = K 26 lv st w := id rfl
theorem sX4_init_28 (lv : zL) (st : List Value) (w : zW) (nx K : Nat → zL → List Value → zW → Prop) (Rt : Option Value → zW → Prop) : z_st1 (tX4_init 28) 28 lv st w nx K Rt = K 28 lv st w := id rfl
theorem sX4_init_34 (lv : zL) (st : List Value) (w : zW) (nx K : Nat → zL → List Value → zW → Prop) (Rt : Option Value → zW → Prop) : z_st1 (tX4_init 34) 34 lv st w nx K Rt = K 34 lv st w := id rfl
theorem sX4_init_36 (lv : zL) (st : List Value) (w : zW) (nx K : Nat → zL → List Value → zW → Prop) (Rt : Option Value → zW → Prop) : z_st1 (tX4_init 36) 36 lv st w nx K Rt = K 36 lv st w := id rfl
theorem sX4_init_41 (lv : zL) (st : List Value) (w : zW) (nx K : Nat → zL → List Value → zW → Prop) (Rt : Option Value → zW → Prop) : z_st1 (tX4_init 41) 41 lv st w nx K Rt = K 41 lv st w := id rfl
theorem sX4_init_46 (lv : zL) (st : List Value) (w : zW) (nx K : Nat → zL → List Value → zW → Prop) (Rt : Option Value → zW → Prop) : z_st1 (tX4_init 46) 46 lv st w nx K Rt = K 46 lv st w := id rfl
theorem dX4_init_1 : decode cX4_init 1 = .ok (.invokespecial 3, 3) := by decide +kernel
theorem dX4_init_8 : decode cX4_init 8 = .ok (.newarray .int, 2) := by decide +kernel
theorem dX4_init_10 : decode cX4_init 10 = .ok (.putfield 9, 3) := by decide +kernel
theorem dX4_init_17 : decode cX4_init 17 = .ok (.newarray .int, 2) := by decide +kernel
theorem dX4_init_19 : decode cX4_init 19 = .ok (.putfield 15, 3) := by decide +kernel
theorem dX4_init_26 : decode cX4_init 26 = .ok (.newarray .int, 2) := by decide +kernel
theorem dX4_init_28 : decode cX4_init 28 = .ok (.putfield 18, 3) := by decide +kernel
theorem dX4_init_34 : decode cX4_init 34 = .ok (.newarray .int, 2) := by decide +kernel
theorem dX4_init_36 : decode cX4_init 36 = .ok (.putfield 21, 3) := by decide +kernel
theorem dX4_init_41 : decode cX4_init 41 = .ok (.putfield 24, 3) := by decide +kernel
theorem dX4_init_46 : decode cX4_init 46 = .ok (.putfield 28, 3) := by decide +kernel

def tmX4_held (pc : Nat) : zI := match pc with
  | 0 => (1, 0, 0, 1, 0)
  | 1 => (46, 5, 6, 4, 0)
  | 4 => (53, 0, 0, 5, 0)
  | _ => (99, 0, 0, 0, 0)
def tX4_held (pc : Nat) : zI := if pc < 5 then tmX4_held pc else (99, 0, 0, 0, 0)
theorem tkX4_held : z_tab RX4 wsX4_held 1 (some .int) cX4_held 5 tX4_held := z_tab_of (tm := tmX4_held) (by decide +kernel)
theorem sX4_held_0 (lv : zL) (st : List Value) (w : zW) (nx K : Nat → zL → List Value → zW → Prop) (Rt : Option Value → zW → Prop) : z_st1 (tX4_held 0) 0 lv st w nx K Rt = (z_la lv 0 (fun x => nx 1 lv (.ref x :: st) w)) := id rfl
theorem sX4_held_1 (lv : zL) (st : List Value) (w : zW) (nx K : Nat → zL → List Value → zW → Prop) (Rt : Option Value → zW → Prop) : z_st1 (tX4_held 1) 1 lv st w nx K Rt = (z_1a st (fun x r => z_ob w x 5 (fun fs => z_fl fs 6 (fun u => nx 4 lv (u :: r) w)))) := id rfl
theorem sX4_held_4 (lv : zL) (st : List Value) (w : zW) (nx K : Nat → zL → List Value → zW → Prop) (Rt : Option Value → zW → Prop) : z_st1 (tX4_held 4) 4 lv st w nx K Rt = (z_e1 st (fun x => Rt (some (.int x)) w)) := id rfl

def tmX4_clear (pc : Nat) : zI := match pc with
  | 0 => (1, 0, 0, 1, 0)
  | 1 => (6, 0, 0, 2, 0)
  | 2 => (47, 5, 6, 5, 0)
  | 5 => (1, 0, 0, 6, 0)
  | 6 => (6, 0, 0, 7, 0)
  | 7 => (47, 5, 7, 10, 0)
  | 10 => (55, 0, 0, 11, 0)
  | _ => (99, 0, 0, 0, 0)
def tX4_clear (pc : Nat) : zI := if pc < 11 then tmX4_clear pc else (99, 0, 0, 0, 0)
theorem tkX4_clear : z_tab RX4 wsX4_clear 1 none cX4_clear 11 tX4_clear := z_tab_of (tm := tmX4_clear) (by decide +kernel)
theorem sX4_clear_0 (lv : zL) (st : List Value) (w : zW) (nx K : Nat → zL → List Value → zW → Prop) (Rt : Option Value → zW → Prop) : z_st1 (tX4_clear 0) 0 lv st w nx K Rt = (z_la lv 0 (fun x => nx 1 lv (.ref x :: st) w)) := id rfl
theorem sX4_clear_1 (lv : zL) (st : List Value) (w : zW) (nx K : Nat → zL → List Value → zW → Prop) (Rt : Option Value → zW → Prop) : z_st1 (tX4_clear 1) 1 lv st w nx K Rt = (nx 2 lv (.int (0 : Int32) :: st) w) := id rfl
theorem sX4_clear_2 (lv : zL) (st : List Value) (w : zW) (nx K : Nat → zL → List Value → zW → Prop) (Rt : Option Value → zW → Prop) : z_st1 (tX4_clear 2) 2 lv st w nx K Rt = (z_ia st (fun x i r => z_ob w x 5 (fun fs => 6 < fs.length ∧ nx 5 lv r (z_up w x (.inr (5, fs.set 6 (.int i))))))) := id rfl
theorem sX4_clear_5 (lv : zL) (st : List Value) (w : zW) (nx K : Nat → zL → List Value → zW → Prop) (Rt : Option Value → zW → Prop) : z_st1 (tX4_clear 5) 5 lv st w nx K Rt = (z_la lv 0 (fun x => nx 6 lv (.ref x :: st) w)) := id rfl
theorem sX4_clear_6 (lv : zL) (st : List Value) (w : zW) (nx K : Nat → zL → List Value → zW → Prop) (Rt : Option Value → zW → Prop) : z_st1 (tX4_clear 6) 6 lv st w nx K Rt = (nx 7 lv (.int (0 : Int32) :: st) w) := id rfl
theorem sX4_clear_7 (lv : zL) (st : List Value) (w : zW) (nx K : Nat → zL → List Value → zW → Prop) (Rt : Option Value → zW → Prop) : z_st1 (tX4_clear 7) 7 lv st w nx K Rt = (z_ia st (fun x i r => z_ob w x 5 (fun fs => 7 < fs.length ∧ nx 10 lv r (z_up w x (.inr (5, fs.set 7 (.int i))))))) := id rfl
theorem sX4_clear_10 (lv : zL) (st : List Value) (w : zW) (nx K : Nat → zL → List Value → zW → Prop) (Rt : Option Value → zW → Prop) : z_st1 (tX4_clear 10) 10 lv st w nx K Rt = (z_e0 st (Rt none w)) := id rfl

def tmX4_orderBy (pc : Nat) : zI := match pc with
  | 0 => (1, 0, 0, 1, 0)
  | 1 => (0, 1, 0, 2, 0)
  | 2 => (62, 5, 8, 5, 0)
  | 5 => (55, 0, 0, 6, 0)
  | _ => (99, 0, 0, 0, 0)
def tX4_orderBy (pc : Nat) : zI := if pc < 6 then tmX4_orderBy pc else (99, 0, 0, 0, 0)
theorem tkX4_orderBy : z_tab RX4 wsX4_orderBy 2 none cX4_orderBy 6 tX4_orderBy := z_tab_of (tm := tmX4_orderBy) (by decide +kernel)
theorem sX4_orderBy_0 (lv : zL) (st : List Value) (w : zW) (nx K : Nat → zL → List Value → zW → Prop) (Rt : Option Value → zW → Prop) : z_st1 (tX4_orderBy 0) 0 lv st w nx K Rt = (z_la lv 0 (fun x => nx 1 lv (.ref x :: st) w)) := id rfl
theorem sX4_orderBy_1 (lv : zL) (st : List Value) (w : zW) (nx K : Nat → zL → List Value → zW → Prop) (Rt : Option Value → zW → Prop) : z_st1 (tX4_orderBy 1) 1 lv st w nx K Rt = (z_li lv 1 (fun x => nx 2 lv (.int x :: st) w)) := id rfl
theorem sX4_orderBy_2 (lv : zL) (st : List Value) (w : zW) (nx K : Nat → zL → List Value → zW → Prop) (Rt : Option Value → zW → Prop) : z_st1 (tX4_orderBy 2) 2 lv st w nx K Rt = (z_ia st (fun x i r => z_ob w x 5 (fun fs => 8 < fs.length ∧ (i = 0 ∨ i = 1) ∧ nx 5 lv r (z_up w x (.inr (5, fs.set 8 (.int i))))))) := id rfl
theorem sX4_orderBy_5 (lv : zL) (st : List Value) (w : zW) (nx K : Nat → zL → List Value → zW → Prop) (Rt : Option Value → zW → Prop) : z_st1 (tX4_orderBy 5) 5 lv st w nx K Rt = (z_e0 st (Rt none w)) := id rfl

def tmX4_beginRun (pc : Nat) : zI := match pc with
  | 0 => (1, 0, 0, 1, 0)
  | 1 => (46, 5, 7, 4, 0)
  | 4 => (6, 0, 0, 7, 1600)
  | 7 => (43, 33, 0, 10, 0)
  | 10 => (1, 0, 0, 11, 0)
  | 11 => (46, 5, 4, 14, 0)
  | 14 => (1, 0, 0, 15, 0)
  | 15 => (46, 5, 7, 18, 0)
  | 18 => (1, 0, 0, 19, 0)
  | 19 => (46, 5, 6, 22, 0)
  | 22 => (49, 0, 0, 23, 0)
  | 23 => (1, 0, 0, 24, 0)
  | 24 => (29, 0, 0, 25, 0)
  | 25 => (46, 5, 7, 28, 0)
  | 28 => (6, 0, 0, 29, 1)
  | 29 => (8, 0, 0, 30, 0)
  | 30 => (47, 5, 7, 33, 0)
  | 33 => (55, 0, 0, 34, 0)
  | _ => (99, 0, 0, 0, 0)
def tX4_beginRun (pc : Nat) : zI := if pc < 34 then tmX4_beginRun pc else (99, 0, 0, 0, 0)
theorem tkX4_beginRun : z_tab RX4 wsX4_beginRun 1 none cX4_beginRun 34 tX4_beginRun := z_tab_of (tm := tmX4_beginRun) (by decide +kernel)
theorem sX4_beginRun_0 (lv : zL) (st : List Value) (w : zW) (nx K : Nat → zL → List Value → zW → Prop) (Rt : Option Value → zW → Prop) : z_st1 (tX4_beginRun 0) 0 lv st w nx K Rt = (z_la lv 0 (fun x => nx 1 lv (.ref x :: st) w)) := id rfl
theorem sX4_beginRun_1 (lv : zL) (st : List Value) (w : zW) (nx K : Nat → zL → List Value → zW → Prop) (Rt : Option Value → zW → Prop) : z_st1 (tX4_beginRun 1) 1 lv st w nx K Rt = (z_1a st (fun x r => z_ob w x 5 (fun fs => z_fl fs 7 (fun u => nx 4 lv (u :: r) w)))) := id rfl
theorem sX4_beginRun_4 (lv : zL) (st : List Value) (w : zW) (nx K : Nat → zL → List Value → zW → Prop) (Rt : Option Value → zW → Prop) : z_st1 (tX4_beginRun 4) 4 lv st w nx K Rt = (nx 7 lv (.int (1600 : Int32) :: st) w) := id rfl
theorem sX4_beginRun_7 (lv : zL) (st : List Value) (w : zW) (nx K : Nat → zL → List Value → zW → Prop) (Rt : Option Value → zW → Prop) : z_st1 (tX4_beginRun 7) 7 lv st w nx K Rt = (z_2i st (fun x y r => (y ≤ x → nx 33 lv r w) ∧ (¬ y ≤ x → nx 10 lv r w))) := id rfl
theorem sX4_beginRun_10 (lv : zL) (st : List Value) (w : zW) (nx K : Nat → zL → List Value → zW → Prop) (Rt : Option Value → zW → Prop) : z_st1 (tX4_beginRun 10) 10 lv st w nx K Rt = (z_la lv 0 (fun x => nx 11 lv (.ref x :: st) w)) := id rfl
theorem sX4_beginRun_11 (lv : zL) (st : List Value) (w : zW) (nx K : Nat → zL → List Value → zW → Prop) (Rt : Option Value → zW → Prop) : z_st1 (tX4_beginRun 11) 11 lv st w nx K Rt = (z_1a st (fun x r => z_ob w x 5 (fun fs => z_fl fs 4 (fun u => nx 14 lv (u :: r) w)))) := id rfl
theorem sX4_beginRun_14 (lv : zL) (st : List Value) (w : zW) (nx K : Nat → zL → List Value → zW → Prop) (Rt : Option Value → zW → Prop) : z_st1 (tX4_beginRun 14) 14 lv st w nx K Rt = (z_la lv 0 (fun x => nx 15 lv (.ref x :: st) w)) := id rfl
theorem sX4_beginRun_15 (lv : zL) (st : List Value) (w : zW) (nx K : Nat → zL → List Value → zW → Prop) (Rt : Option Value → zW → Prop) : z_st1 (tX4_beginRun 15) 15 lv st w nx K Rt = (z_1a st (fun x r => z_ob w x 5 (fun fs => z_fl fs 7 (fun u => nx 18 lv (u :: r) w)))) := id rfl
theorem sX4_beginRun_18 (lv : zL) (st : List Value) (w : zW) (nx K : Nat → zL → List Value → zW → Prop) (Rt : Option Value → zW → Prop) : z_st1 (tX4_beginRun 18) 18 lv st w nx K Rt = (z_la lv 0 (fun x => nx 19 lv (.ref x :: st) w)) := id rfl
theorem sX4_beginRun_19 (lv : zL) (st : List Value) (w : zW) (nx K : Nat → zL → List Value → zW → Prop) (Rt : Option Value → zW → Prop) : z_st1 (tX4_beginRun 19) 19 lv st w nx K Rt = (z_1a st (fun x r => z_ob w x 5 (fun fs => z_fl fs 6 (fun u => nx 22 lv (u :: r) w)))) := id rfl
theorem sX4_beginRun_22 (lv : zL) (st : List Value) (w : zW) (nx K : Nat → zL → List Value → zW → Prop) (Rt : Option Value → zW → Prop) : z_st1 (tX4_beginRun 22) 22 lv st w nx K Rt = (z_iia st (fun x i u r => z_ar0 w x (fun m g => vp_in i m ∧ nx 23 lv r (z_up w x (.inl (0, m, .inl (upd g i.toNatClampNeg u))))))) := id rfl
theorem sX4_beginRun_23 (lv : zL) (st : List Value) (w : zW) (nx K : Nat → zL → List Value → zW → Prop) (Rt : Option Value → zW → Prop) : z_st1 (tX4_beginRun 23) 23 lv st w nx K Rt = (z_la lv 0 (fun x => nx 24 lv (.ref x :: st) w)) := id rfl
theorem sX4_beginRun_24 (lv : zL) (st : List Value) (w : zW) (nx K : Nat → zL → List Value → zW → Prop) (Rt : Option Value → zW → Prop) : z_st1 (tX4_beginRun 24) 24 lv st w nx K Rt = (z_d1 st (fun x r => nx 25 lv (x :: x :: r) w)) := id rfl
theorem sX4_beginRun_25 (lv : zL) (st : List Value) (w : zW) (nx K : Nat → zL → List Value → zW → Prop) (Rt : Option Value → zW → Prop) : z_st1 (tX4_beginRun 25) 25 lv st w nx K Rt = (z_1a st (fun x r => z_ob w x 5 (fun fs => z_fl fs 7 (fun u => nx 28 lv (u :: r) w)))) := id rfl
theorem sX4_beginRun_28 (lv : zL) (st : List Value) (w : zW) (nx K : Nat → zL → List Value → zW → Prop) (Rt : Option Value → zW → Prop) : z_st1 (tX4_beginRun 28) 28 lv st w nx K Rt = (nx 29 lv (.int (1 : Int32) :: st) w) := id rfl
theorem sX4_beginRun_29 (lv : zL) (st : List Value) (w : zW) (nx K : Nat → zL → List Value → zW → Prop) (Rt : Option Value → zW → Prop) : z_st1 (tX4_beginRun 29) 29 lv st w nx K Rt = (z_2i st (fun x y r => nx 30 lv (.int (x + y) :: r) w)) := id rfl
theorem sX4_beginRun_30 (lv : zL) (st : List Value) (w : zW) (nx K : Nat → zL → List Value → zW → Prop) (Rt : Option Value → zW → Prop) : z_st1 (tX4_beginRun 30) 30 lv st w nx K Rt = (z_ia st (fun x i r => z_ob w x 5 (fun fs => 7 < fs.length ∧ nx 33 lv r (z_up w x (.inr (5, fs.set 7 (.int i))))))) := id rfl
theorem sX4_beginRun_33 (lv : zL) (st : List Value) (w : zW) (nx K : Nat → zL → List Value → zW → Prop) (Rt : Option Value → zW → Prop) : z_st1 (tX4_beginRun 33) 33 lv st w nx K Rt = (z_e0 st (Rt none w)) := id rfl

def tmX4_endRuns (pc : Nat) : zI := match pc with
  | 0 => (1, 0, 0, 1, 0)
  | 1 => (46, 5, 4, 4, 0)
  | 4 => (1, 0, 0, 5, 0)
  | 5 => (46, 5, 7, 8, 0)
  | 8 => (1, 0, 0, 9, 0)
  | 9 => (46, 5, 6, 12, 0)
  | 12 => (49, 0, 0, 13, 0)
  | 13 => (55, 0, 0, 14, 0)
  | _ => (99, 0, 0, 0, 0)
def tX4_endRuns (pc : Nat) : zI := if pc < 14 then tmX4_endRuns pc else (99, 0, 0, 0, 0)
theorem tkX4_endRuns : z_tab RX4 wsX4_endRuns 1 none cX4_endRuns 14 tX4_endRuns := z_tab_of (tm := tmX4_endRuns) (by decide +kernel)
theorem sX4_endRuns_0 (lv : zL) (st : List Value) (w : zW) (nx K : Nat → zL → List Value → zW → Prop) (Rt : Option Value → zW → Prop) : z_st1 (tX4_endRuns 0) 0 lv st w nx K Rt = (z_la lv 0 (fun x => nx 1 lv (.ref x :: st) w)) := id rfl
theorem sX4_endRuns_1 (lv : zL) (st : List Value) (w : zW) (nx K : Nat → zL → List Value → zW → Prop) (Rt : Option Value → zW → Prop) : z_st1 (tX4_endRuns 1) 1 lv st w nx K Rt = (z_1a st (fun x r => z_ob w x 5 (fun fs => z_fl fs 4 (fun u => nx 4 lv (u :: r) w)))) := id rfl
theorem sX4_endRuns_4 (lv : zL) (st : List Value) (w : zW) (nx K : Nat → zL → List Value → zW → Prop) (Rt : Option Value → zW → Prop) : z_st1 (tX4_endRuns 4) 4 lv st w nx K Rt = (z_la lv 0 (fun x => nx 5 lv (.ref x :: st) w)) := id rfl
theorem sX4_endRuns_5 (lv : zL) (st : List Value) (w : zW) (nx K : Nat → zL → List Value → zW → Prop) (Rt : Option Value → zW → Prop) : z_st1 (tX4_endRuns 5) 5 lv st w nx K Rt = (z_1a st (fun x r => z_ob w x 5 (fun fs => z_fl fs 7 (fun u => nx 8 lv (u :: r) w)))) := id rfl
theorem sX4_endRuns_8 (lv : zL) (st : List Value) (w : zW) (nx K : Nat → zL → List Value → zW → Prop) (Rt : Option Value → zW → Prop) : z_st1 (tX4_endRuns 8) 8 lv st w nx K Rt = (z_la lv 0 (fun x => nx 9 lv (.ref x :: st) w)) := id rfl
theorem sX4_endRuns_9 (lv : zL) (st : List Value) (w : zW) (nx K : Nat → zL → List Value → zW → Prop) (Rt : Option Value → zW → Prop) : z_st1 (tX4_endRuns 9) 9 lv st w nx K Rt = (z_1a st (fun x r => z_ob w x 5 (fun fs => z_fl fs 6 (fun u => nx 12 lv (u :: r) w)))) := id rfl
theorem sX4_endRuns_12 (lv : zL) (st : List Value) (w : zW) (nx K : Nat → zL → List Value → zW → Prop) (Rt : Option Value → zW → Prop) : z_st1 (tX4_endRuns 12) 12 lv st w nx K Rt = (z_iia st (fun x i u r => z_ar0 w x (fun m g => vp_in i m ∧ nx 13 lv r (z_up w x (.inl (0, m, .inl (upd g i.toNatClampNeg u))))))) := id rfl
theorem sX4_endRuns_13 (lv : zL) (st : List Value) (w : zW) (nx K : Nat → zL → List Value → zW → Prop) (Rt : Option Value → zW → Prop) : z_st1 (tX4_endRuns 13) 13 lv st w nx K Rt = (z_e0 st (Rt none w)) := id rfl

def tmX4_mergeRuns (pc : Nat) : zI := match pc with
  | 0 => (0, 1, 0, 1, 0)
  | 1 => (6, 0, 0, 2, 2)
  | 5 => (6, 0, 0, 7, 16)
  | 10 => (3, 2, 0, 11, 0)
  | 11 => (6, 0, 0, 12, 0)
  | 12 => (3, 3, 0, 13, 0)
  | 13 => (1, 0, 0, 14, 0)
  | 14 => (46, 5, 7, 17, 0)
  | 17 => (6, 0, 0, 18, 1)
  | 18 => (45, 119, 0, 21, 0)
  | 21 => (0, 3, 0, 22, 0)
  | 22 => (6, 0, 0, 25, 1600)
  | 25 => (43, 119, 0, 28, 0)
  | 28 => (6, 0, 0, 29, 0)
  | 29 => (3, 4, 0, 31, 0)
  | 31 => (6, 0, 0, 32, 0)
  | 32 => (3, 5, 0, 34, 0)
  | 34 => (0, 5, 0, 36, 0)
  | 36 => (1, 0, 0, 37, 0)
  | 37 => (46, 5, 7, 40, 0)
  | 40 => (43, 86, 0, 43, 0)
  | 43 => (1, 0, 0, 44, 0)
  | 44 => (0, 5, 0, 46, 0)
  | 46 => (0, 5, 0, 48, 0)
  | 48 => (0, 2, 0, 49, 0)
  | 49 => (8, 0, 0, 50, 0)
  | 50 => (1, 0, 0, 51, 0)
  | 51 => (46, 5, 7, 54, 0)
  | 60 => (1, 0, 0, 61, 0)
  | 61 => (46, 5, 4, 64, 0)
  | 64 => (0, 4, 0, 66, 0)
  | 66 => (1, 0, 0, 67, 0)
  | 67 => (46, 5, 4, 70, 0)
  | 70 => (0, 5, 0, 72, 0)
  | 72 => (48, 0, 0, 73, 0)
  | 73 => (49, 0, 0, 74, 0)
  | 74 => (7, 4, 0, 77, 1)
  | 77 => (0, 5, 0, 79, 0)
  | 79 => (0, 2, 0, 80, 0)
  | 80 => (8, 0, 0, 81, 0)
  | 81 => (3, 5, 0, 83, 0)
  | 83 => (33, 34, 0, 86, 0)
  | 86 => (1, 0, 0, 87, 0)
  | 87 => (46, 5, 3, 90, 0)
  | 90 => (6, 0, 0, 91, 0)
  | 91 => (1, 0, 0, 92, 0)
  | 92 => (46, 5, 2, 95, 0)
  | 95 => (6, 0, 0, 96, 0)
  | 96 => (1, 0, 0, 97, 0)
  | 97 => (46, 5, 6, 100, 0)
  | 103 => (1, 0, 0, 104, 0)
  | 104 => (0, 4, 0, 106, 0)
  | 106 => (47, 5, 7, 109, 0)
  | 109 => (1, 0, 0, 110, 0)
  | 113 => (7, 3, 0, 116, 1)
  | 116 => (33, 13, 0, 119, 0)
  | 119 => (0, 3, 0, 120, 0)
  | 120 => (53, 0, 0, 121, 0)
  | _ => (99, 0, 0, 0, 0)
def tX4_mergeRuns (pc : Nat) : zI := if pc < 121 then tmX4_mergeRuns pc else (99, 0, 0, 0, 0)
theorem tkX4_mergeRuns : z_tab RX4 wsX4_mergeRuns 6 (some .int) cX4_mergeRuns 121 tX4_mergeRuns := z_tab_of (tm := tmX4_mergeRuns) (by decide +kernel)
theorem sX4_mergeRuns_0 (lv : zL) (st : List Value) (w : zW) (nx K : Nat → zL → List Value → zW → Prop) (Rt : Option Value → zW → Prop) : z_st1 (tX4_mergeRuns 0) 0 lv st w nx K Rt = (z_li lv 1 (fun x => nx 1 lv (.int x :: st) w)) := id rfl
theorem sX4_mergeRuns_1 (lv : zL) (st : List Value) (w : zW) (nx K : Nat → zL → List Value → zW → Prop) (Rt : Option Value → zW → Prop) : z_st1 (tX4_mergeRuns 1) 1 lv st w nx K Rt = (nx 2 lv (.int (2 : Int32) :: st) w) := id rfl
theorem sX4_mergeRuns_5 (lv : zL) (st : List Value) (w : zW) (nx K : Nat → zL → List Value → zW → Prop) (Rt : Option Value → zW → Prop) : z_st1 (tX4_mergeRuns 5) 5 lv st w nx K Rt = (nx 7 lv (.int (16 : Int32) :: st) w) := id rfl
theorem sX4_mergeRuns_10 (lv : zL) (st : List Value) (w : zW) (nx K : Nat → zL → List Value → zW → Prop) (Rt : Option Value → zW → Prop) : z_st1 (tX4_mergeRuns 10) 10 lv st w nx K Rt = (z_1i st (fun x r => z_ok1 lv 2 = true ∧ nx 11 (lv.set 2 (some (.int x))) r w)) := id rfl
theorem sX4_mergeRuns_11 (lv : zL) (st : List Value) (w : zW) (nx K : Nat → zL → List Value → zW → Prop) (Rt : Option Value → zW → Prop) : z_st1 (tX4_mergeRuns 11) 11 lv st w nx K Rt = (nx 12 lv (.int (0 : Int32) :: st) w) := id rfl
theorem sX4_mergeRuns_12 (lv : zL) (st : List Value) (w : zW) (nx K : Nat → zL → List Value → zW → Prop) (Rt : Option Value → zW → Prop) : z_st1 (tX4_mergeRuns 12) 12 lv st w nx K Rt = (z_1i st (fun x r => z_ok1 lv 3 = true ∧ nx 13 (lv.set 3 (some (.int x))) r w)) := id rfl
theorem sX4_mergeRuns_13 (lv : zL) (st : List Value) (w : zW) (nx K : Nat → zL → List Value → zW → Prop) (Rt : Option Value → zW → Prop) : z_st1 (tX4_mergeRuns 13) 13 lv st w nx K Rt = (z_la lv 0 (fun x => nx 14 lv (.ref x :: st) w)) := id rfl
theorem sX4_mergeRuns_14 (lv : zL) (st : List Value) (w : zW) (nx K : Nat → zL → List Value → zW → Prop) (Rt : Option Value → zW → Prop) : z_st1 (tX4_mergeRuns 14) 14 lv st w nx K Rt = (z_1a st (fun x r => z_ob w x 5 (fun fs => z_fl fs 7 (fun u => nx 17 lv (u :: r) w)))) := id rfl
theorem sX4_mergeRuns_17 (lv : zL) (st : List Value) (w : zW) (nx K : Nat → zL → List Value → zW → Prop) (Rt : Option Value → zW → Prop) : z_st1 (tX4_mergeRuns 17) 17 lv st w nx K Rt = (nx 18 lv (.int (1 : Int32) :: st) w) := id rfl
theorem sX4_mergeRuns_18 (lv : zL) (st : List Value) (w : zW) (nx K : Nat → zL → List Value → zW → Prop) (Rt : Option Value → zW → Prop) : z_st1 (tX4_mergeRuns 18) 18 lv st w nx K Rt = (z_2i st (fun x y r => (x ≤ y → nx 119 lv r w) ∧ (¬ x ≤ y → nx 21 lv r w))) := id rfl
theorem sX4_mergeRuns_21 (lv : zL) (st : List Value) (w : zW) (nx K : Nat → zL → List Value → zW → Prop) (Rt : Option Value → zW → Prop) : z_st1 (tX4_mergeRuns 21) 21 lv st w nx K Rt = (z_li lv 3 (fun x => nx 22 lv (.int x :: st) w)) := id rfl
theorem sX4_mergeRuns_22 (lv : zL) (st : List Value) (w : zW) (nx K : Nat → zL → List Value → zW → Prop) (Rt : Option Value → zW → Prop) : z_st1 (tX4_mergeRuns 22) 22 lv st w nx K Rt = (nx 25 lv (.int (1600 : Int32) :: st) w) := id rfl
theorem sX4_mergeRuns_25 (lv : zL) (st : List Value) (w : zW) (nx K : Nat → zL → List Value → zW → Prop) (Rt : Option Value → zW → Prop) : z_st1 (tX4_mergeRuns 25) 25 lv st w nx K Rt = (z_2i st (fun x y r => (y ≤ x → nx 119 lv r w) ∧ (¬ y ≤ x → nx 28 lv r w))) := id rfl
theorem sX4_mergeRuns_28 (lv : zL) (st : List Value) (w : zW) (nx K : Nat → zL → List Value → zW → Prop) (Rt : Option Value → zW → Prop) : z_st1 (tX4_mergeRuns 28) 28 lv st w nx K Rt = (nx 29 lv (.int (0 : Int32) :: st) w) := id rfl
theorem sX4_mergeRuns_29 (lv : zL) (st : List Value) (w : zW) (nx K : Nat → zL → List Value → zW → Prop) (Rt : Option Value → zW → Prop) : z_st1 (tX4_mergeRuns 29) 29 lv st w nx K Rt = (z_1i st (fun x r => z_ok1 lv 4 = true ∧ nx 31 (lv.set 4 (some (.int x))) r w)) := id rfl
theorem sX4_mergeRuns_31 (lv : zL) (st : List Value) (w : zW) (nx K : Nat → zL → List Value → zW → Prop) (Rt : Option Value → zW → Prop) : z_st1 (tX4_mergeRuns 31) 31 lv st w nx K Rt = (nx 32 lv (.int (0 : Int32) :: st) w) := id rfl
theorem sX4_mergeRuns_32 (lv : zL) (st : List Value) (w : zW) (nx K : Nat → zL → List Value → zW → Prop) (Rt : Option Value → zW → Prop) : z_st1 (tX4_mergeRuns 32) 32 lv st w nx K Rt = (z_1i st (fun x r => z_ok1 lv 5 = true ∧ nx 34 (lv.set 5 (some (.int x))) r w)) := id rfl
theorem sX4_mergeRuns_34 (lv : zL) (st : List Value) (w : zW) (nx K : Nat → zL → List Value → zW → Prop) (Rt : Option Value → zW → Prop) : z_st1 (tX4_mergeRuns 34) 34 lv st w nx K Rt = (z_li lv 5 (fun x => nx 36 lv (.int x :: st) w)) := id rfl
theorem sX4_mergeRuns_36 (lv : zL) (st : List Value) (w : zW) (nx K : Nat → zL → List Value → zW → Prop) (Rt : Option Value → zW → Prop) : z_st1 (tX4_mergeRuns 36) 36 lv st w nx K Rt = (z_la lv 0 (fun x => nx 37 lv (.ref x :: st) w)) := id rfl
theorem sX4_mergeRuns_37 (lv : zL) (st : List Value) (w : zW) (nx K : Nat → zL → List Value → zW → Prop) (Rt : Option Value → zW → Prop) : z_st1 (tX4_mergeRuns 37) 37 lv st w nx K Rt = (z_1a st (fun x r => z_ob w x 5 (fun fs => z_fl fs 7 (fun u => nx 40 lv (u :: r) w)))) := id rfl
theorem sX4_mergeRuns_40 (lv : zL) (st : List Value) (w : zW) (nx K : Nat → zL → List Value → zW → Prop) (Rt : Option Value → zW → Prop) : z_st1 (tX4_mergeRuns 40) 40 lv st w nx K Rt = (z_2i st (fun x y r => (y ≤ x → nx 86 lv r w) ∧ (¬ y ≤ x → nx 43 lv r w))) := id rfl
theorem sX4_mergeRuns_43 (lv : zL) (st : List Value) (w : zW) (nx K : Nat → zL → List Value → zW → Prop) (Rt : Option Value → zW → Prop) : z_st1 (tX4_mergeRuns 43) 43 lv st w nx K Rt = (z_la lv 0 (fun x => nx 44 lv (.ref x :: st) w)) := id rfl
theorem sX4_mergeRuns_44 (lv : zL) (st : List Value) (w : zW) (nx K : Nat → zL → List Value → zW → Prop) (Rt : Option Value → zW → Prop) : z_st1 (tX4_mergeRuns 44) 44 lv st w nx K Rt = (z_li lv 5 (fun x => nx 46 lv (.int x :: st) w)) := id rfl
theorem sX4_mergeRuns_46 (lv : zL) (st : List Value) (w : zW) (nx K : Nat → zL → List Value → zW → Prop) (Rt : Option Value → zW → Prop) : z_st1 (tX4_mergeRuns 46) 46 lv st w nx K Rt = (z_li lv 5 (fun x => nx 48 lv (.int x :: st) w)) := id rfl
theorem sX4_mergeRuns_48 (lv : zL) (st : List Value) (w : zW) (nx K : Nat → zL → List Value → zW → Prop) (Rt : Option Value → zW → Prop) : z_st1 (tX4_mergeRuns 48) 48 lv st w nx K Rt = (z_li lv 2 (fun x => nx 49 lv (.int x :: st) w)) := id rfl
theorem sX4_mergeRuns_49 (lv : zL) (st : List Value) (w : zW) (nx K : Nat → zL → List Value → zW → Prop) (Rt : Option Value → zW → Prop) : z_st1 (tX4_mergeRuns 49) 49 lv st w nx K Rt = (z_2i st (fun x y r => nx 50 lv (.int (x + y) :: r) w)) := id rfl
theorem sX4_mergeRuns_50 (lv : zL) (st : List Value) (w : zW) (nx K : Nat → zL → List Value → zW → Prop) (Rt : Option Value → zW → Prop) : z_st1 (tX4_mergeRuns 50) 50 lv st w nx K Rt = (z_la lv 0 (fun x => nx 51 lv (.ref x :: st) w)) := id rfl
theorem sX4_mergeRuns_51 (lv : zL) (st : List Value) (w : zW) (nx K : Nat → zL → List Value → zW → Prop) (Rt : Option Value → zW → Prop) : z_st1 (tX4_mergeRuns 51) 51 lv st w nx K Rt = (z_1a st (fun x r => z_ob w x 5 (fun fs => z_fl fs 7 (fun u => nx 54 lv (u :: r) w)))) := id rfl
theorem sX4_mergeRuns_60 (lv : zL) (st : List Value) (w : zW) (nx K : Nat → zL → List Value → zW → Prop) (Rt : Option Value → zW → Prop) : z_st1 (tX4_mergeRuns 60) 60 lv st w nx K Rt = (z_la lv 0 (fun x => nx 61 lv (.ref x :: st) w)) := id rfl
theorem sX4_mergeRuns_61 (lv : zL) (st : List Value) (w : zW) (nx K : Nat → zL → List Value → zW → Prop) (Rt : Option Value → zW → Prop) : z_st1 (tX4_mergeRuns 61) 61 lv st w nx K Rt = (z_1a st (fun x r => z_ob w x 5 (fun fs => z_fl fs 4 (fun u => nx 64 lv (u :: r) w)))) := id rfl
theorem sX4_mergeRuns_64 (lv : zL) (st : List Value) (w : zW) (nx K : Nat → zL → List Value → zW → Prop) (Rt : Option Value → zW → Prop) : z_st1 (tX4_mergeRuns 64) 64 lv st w nx K Rt = (z_li lv 4 (fun x => nx 66 lv (.int x :: st) w)) := id rfl
theorem sX4_mergeRuns_66 (lv : zL) (st : List Value) (w : zW) (nx K : Nat → zL → List Value → zW → Prop) (Rt : Option Value → zW → Prop) : z_st1 (tX4_mergeRuns 66) 66 lv st w nx K Rt = (z_la lv 0 (fun x => nx 67 lv (.ref x :: st) w)) := id rfl
theorem sX4_mergeRuns_67 (lv : zL) (st : List Value) (w : zW) (nx K : Nat → zL → List Value → zW → Prop) (Rt : Option Value → zW → Prop) : z_st1 (tX4_mergeRuns 67) 67 lv st w nx K Rt = (z_1a st (fun x r => z_ob w x 5 (fun fs => z_fl fs 4 (fun u => nx 70 lv (u :: r) w)))) := id rfl
theorem sX4_mergeRuns_70 (lv : zL) (st : List Value) (w : zW) (nx K : Nat → zL → List Value → zW → Prop) (Rt : Option Value → zW → Prop) : z_st1 (tX4_mergeRuns 70) 70 lv st w nx K Rt = (z_li lv 5 (fun x => nx 72 lv (.int x :: st) w)) := id rfl
theorem sX4_mergeRuns_72 (lv : zL) (st : List Value) (w : zW) (nx K : Nat → zL → List Value → zW → Prop) (Rt : Option Value → zW → Prop) : z_st1 (tX4_mergeRuns 72) 72 lv st w nx K Rt = (z_ia st (fun x i r => z_ar0 w x (fun m g => vp_in i m ∧ nx 73 lv (.int (g i.toNatClampNeg) :: r) w))) := id rfl
theorem sX4_mergeRuns_73 (lv : zL) (st : List Value) (w : zW) (nx K : Nat → zL → List Value → zW → Prop) (Rt : Option Value → zW → Prop) : z_st1 (tX4_mergeRuns 73) 73 lv st w nx K Rt = (z_iia st (fun x i u r => z_ar0 w x (fun m g => vp_in i m ∧ nx 74 lv r (z_up w x (.inl (0, m, .inl (upd g i.toNatClampNeg u))))))) := id rfl
theorem sX4_mergeRuns_74 (lv : zL) (st : List Value) (w : zW) (nx K : Nat → zL → List Value → zW → Prop) (Rt : Option Value → zW → Prop) : z_st1 (tX4_mergeRuns 74) 74 lv st w nx K Rt = (z_li lv 4 (fun x => z_ok1 lv 4 = true ∧ nx 77 (lv.set 4 (some (.int (x + (1 : Int32))))) st w)) := id rfl
theorem sX4_mergeRuns_77 (lv : zL) (st : List Value) (w : zW) (nx K : Nat → zL → List Value → zW → Prop) (Rt : Option Value → zW → Prop) : z_st1 (tX4_mergeRuns 77) 77 lv st w nx K Rt = (z_li lv 5 (fun x => nx 79 lv (.int x :: st) w)) := id rfl
theorem sX4_mergeRuns_79 (lv : zL) (st : List Value) (w : zW) (nx K : Nat → zL → List Value → zW → Prop) (Rt : Option Value → zW → Prop) : z_st1 (tX4_mergeRuns 79) 79 lv st w nx K Rt = (z_li lv 2 (fun x => nx 80 lv (.int x :: st) w)) := id rfl
theorem sX4_mergeRuns_80 (lv : zL) (st : List Value) (w : zW) (nx K : Nat → zL → List Value → zW → Prop) (Rt : Option Value → zW → Prop) : z_st1 (tX4_mergeRuns 80) 80 lv st w nx K Rt = (z_2i st (fun x y r => nx 81 lv (.int (x + y) :: r) w)) := id rfl
theorem sX4_mergeRuns_81 (lv : zL) (st : List Value) (w : zW) (nx K : Nat → zL → List Value → zW → Prop) (Rt : Option Value → zW → Prop) : z_st1 (tX4_mergeRuns 81) 81 lv st w nx K Rt = (z_1i st (fun x r => z_ok1 lv 5 = true ∧ nx 83 (lv.set 5 (some (.int x))) r w)) := id rfl
theorem sX4_mergeRuns_83 (lv : zL) (st : List Value) (w : zW) (nx K : Nat → zL → List Value → zW → Prop) (Rt : Option Value → zW → Prop) : z_st1 (tX4_mergeRuns 83) 83 lv st w nx K Rt = (nx 34 lv st w) := id rfl
theorem sX4_mergeRuns_86 (lv : zL) (st : List Value) (w : zW) (nx K : Nat → zL → List Value → zW → Prop) (Rt : Option Value → zW → Prop) : z_st1 (tX4_mergeRuns 86) 86 lv st w nx K Rt = (z_la lv 0 (fun x => nx 87 lv (.ref x :: st) w)) := id rfl
theorem sX4_mergeRuns_87 (lv : zL) (st : List Value) (w : zW) (nx K : Nat → zL → List Value → zW → Prop) (Rt : Option Value → zW → Prop) : z_st1 (tX4_mergeRuns 87) 87 lv st w nx K Rt = (z_1a st (fun x r => z_ob w x 5 (fun fs => z_fl fs 3 (fun u => nx 90 lv (u :: r) w)))) := id rfl
theorem sX4_mergeRuns_90 (lv : zL) (st : List Value) (w : zW) (nx K : Nat → zL → List Value → zW → Prop) (Rt : Option Value → zW → Prop) : z_st1 (tX4_mergeRuns 90) 90 lv st w nx K Rt = (nx 91 lv (.int (0 : Int32) :: st) w) := id rfl
theorem sX4_mergeRuns_91 (lv : zL) (st : List Value) (w : zW) (nx K : Nat → zL → List Value → zW → Prop) (Rt : Option Value → zW → Prop) : z_st1 (tX4_mergeRuns 91) 91 lv st w nx K Rt = (z_la lv 0 (fun x => nx 92 lv (.ref x :: st) w)) := id rfl
theorem sX4_mergeRuns_92 (lv : zL) (st : List Value) (w : zW) (nx K : Nat → zL → List Value → zW → Prop) (Rt : Option Value → zW → Prop) : z_st1 (tX4_mergeRuns 92) 92 lv st w nx K Rt = (z_1a st (fun x r => z_ob w x 5 (fun fs => z_fl fs 2 (fun u => nx 95 lv (u :: r) w)))) := id rfl
theorem sX4_mergeRuns_95 (lv : zL) (st : List Value) (w : zW) (nx K : Nat → zL → List Value → zW → Prop) (Rt : Option Value → zW → Prop) : z_st1 (tX4_mergeRuns 95) 95 lv st w nx K Rt = (nx 96 lv (.int (0 : Int32) :: st) w) := id rfl
theorem sX4_mergeRuns_96 (lv : zL) (st : List Value) (w : zW) (nx K : Nat → zL → List Value → zW → Prop) (Rt : Option Value → zW → Prop) : z_st1 (tX4_mergeRuns 96) 96 lv st w nx K Rt = (z_la lv 0 (fun x => nx 97 lv (.ref x :: st) w)) := id rfl
theorem sX4_mergeRuns_97 (lv : zL) (st : List Value) (w : zW) (nx K : Nat → zL → List Value → zW → Prop) (Rt : Option Value → zW → Prop) : z_st1 (tX4_mergeRuns 97) 97 lv st w nx K Rt = (z_1a st (fun x r => z_ob w x 5 (fun fs => z_fl fs 6 (fun u => nx 100 lv (u :: r) w)))) := id rfl
theorem sX4_mergeRuns_103 (lv : zL) (st : List Value) (w : zW) (nx K : Nat → zL → List Value → zW → Prop) (Rt : Option Value → zW → Prop) : z_st1 (tX4_mergeRuns 103) 103 lv st w nx K Rt = (z_la lv 0 (fun x => nx 104 lv (.ref x :: st) w)) := id rfl
theorem sX4_mergeRuns_104 (lv : zL) (st : List Value) (w : zW) (nx K : Nat → zL → List Value → zW → Prop) (Rt : Option Value → zW → Prop) : z_st1 (tX4_mergeRuns 104) 104 lv st w nx K Rt = (z_li lv 4 (fun x => nx 106 lv (.int x :: st) w)) := id rfl
theorem sX4_mergeRuns_106 (lv : zL) (st : List Value) (w : zW) (nx K : Nat → zL → List Value → zW → Prop) (Rt : Option Value → zW → Prop) : z_st1 (tX4_mergeRuns 106) 106 lv st w nx K Rt = (z_ia st (fun x i r => z_ob w x 5 (fun fs => 7 < fs.length ∧ nx 109 lv r (z_up w x (.inr (5, fs.set 7 (.int i))))))) := id rfl
theorem sX4_mergeRuns_109 (lv : zL) (st : List Value) (w : zW) (nx K : Nat → zL → List Value → zW → Prop) (Rt : Option Value → zW → Prop) : z_st1 (tX4_mergeRuns 109) 109 lv st w nx K Rt = (z_la lv 0 (fun x => nx 110 lv (.ref x :: st) w)) := id rfl
theorem sX4_mergeRuns_113 (lv : zL) (st : List Value) (w : zW) (nx K : Nat → zL → List Value → zW → Prop) (Rt : Option Value → zW → Prop) : z_st1 (tX4_mergeRuns 113) 113 lv st w nx K Rt = (z_li lv 3 (fun x => z_ok1 lv 3 = true ∧ nx 116 (lv.set 3 (some (.int (x + (1 : Int32))))) st w)) := id rfl
theorem sX4_mergeRuns_116 (lv : zL) (st : List Value) (w : zW) (nx K : Nat → zL → List Value → zW → Prop) (Rt : Option Value → zW → Prop) : z_st1 (tX4_mergeRuns 116) 116 lv st w nx K Rt = (nx 13 lv st w) := id rfl
theorem sX4_mergeRuns_119 (lv : zL) (st : List Value) (w : zW) (nx K : Nat → zL → List Value → zW → Prop) (Rt : Option Value → zW → Prop) : z_st1 (tX4_mergeRuns 119) 119 lv st w nx K Rt = (z_li lv 3 (fun x => nx 120 lv (.int x :: st) w)) := id rfl
theorem sX4_mergeRuns_120 (lv : zL) (st : List Value) (w : zW) (nx K : Nat → zL → List Value → zW → Prop) (Rt : Option Value → zW → Prop) : z_st1 (tX4_mergeRuns 120) 120 lv st w nx K Rt = (z_e1 st (fun x => Rt (some (.int x)) w)) := id rfl
theorem sX4_mergeRuns_2 (lv : zL) (st : List Value) (w : zW) (nx K : Nat → zL → List Value → zW → Prop) (Rt : Option Value → zW → Prop) : z_st1 (tX4_mergeRuns 2) 2 lv st w nx K Rt = K 2 lv st w := id rfl
theorem sX4_mergeRuns_7 (lv : zL) (st : List Value) (w : zW) (nx K : Nat → zL → List Value → zW → Prop) (Rt : Option Value → zW → Prop) : z_st1 (tX4_mergeRuns 7) 7 lv st w nx K Rt = K 7 lv st w := id rfl
theorem sX4_mergeRuns_54 (lv : zL) (st : List Value) (w : zW) (nx K : Nat → zL → List Value → zW → Prop) (Rt : Option Value → zW → Prop) : z_st1 (tX4_mergeRuns 54) 54 lv st w nx K Rt = K 54 lv st w := id rfl
theorem sX4_mergeRuns_57 (lv : zL) (st : List Value) (w : zW) (nx K : Nat → zL → List Value → zW → Prop) (Rt : Option Value → zW → Prop) : z_st1 (tX4_mergeRuns 57) 57 lv st w nx K Rt = K 57 lv st w := id rfl
theorem sX4_mergeRuns_100 (lv : zL) (st : List Value) (w : zW) (nx K : Nat → zL → List Value → zW → Prop) (Rt : Option Value → zW → Prop) : z_st1 (tX4_mergeRuns 100) 100 lv st w nx K Rt = K 100 lv st w := id rfl
theorem sX4_mergeRuns_110 (lv : zL) (st : List Value) (w : zW) (nx K : Nat → zL → List Value → zW → Prop) (Rt : Option Value → zW → Prop) : z_st1 (tX4_mergeRuns 110) 110 lv st w nx K Rt = K 110 lv st w := id rfl
theorem dX4_mergeRuns_2 : decode cX4_mergeRuns 2 = .ok (.invokestatic 39, 3) := by decide +kernel
theorem dX4_mergeRuns_7 : decode cX4_mergeRuns 7 = .ok (.invokestatic 45, 3) := by decide +kernel
theorem dX4_mergeRuns_54 : decode cX4_mergeRuns 54 = .ok (.invokestatic 45, 3) := by decide +kernel
theorem dX4_mergeRuns_57 : decode cX4_mergeRuns 57 = .ok (.invokevirtual 69, 3) := by decide +kernel
theorem dX4_mergeRuns_100 : decode cX4_mergeRuns 100 = .ok (.invokestatic 63, 3) := by decide +kernel
theorem dX4_mergeRuns_110 : decode cX4_mergeRuns 110 = .ok (.invokevirtual 56, 3) := by decide +kernel

def tmX4_mergeGroup (pc : Nat) : zI := match pc with
  | 0 => (0, 1, 0, 1, 0)
  | 1 => (3, 3, 0, 2, 0)
  | 2 => (0, 3, 0, 3, 0)
  | 3 => (0, 2, 0, 4, 0)
  | 4 => (43, 27, 0, 7, 0)
  | 7 => (1, 0, 0, 8, 0)
  | 8 => (46, 5, 5, 11, 0)
  | 11 => (0, 3, 0, 12, 0)
  | 12 => (0, 1, 0, 13, 0)
  | 13 => (9, 0, 0, 14, 0)
  | 14 => (1, 0, 0, 15, 0)
  | 15 => (46, 5, 4, 18, 0)
  | 18 => (0, 3, 0, 19, 0)
  | 19 => (48, 0, 0, 20, 0)
  | 20 => (49, 0, 0, 21, 0)
  | 21 => (7, 3, 0, 24, 1)
  | 24 => (33, 2, 0, 27, 0)
  | 27 => (1, 0, 0, 28, 0)
  | 28 => (46, 5, 4, 31, 0)
  | 31 => (0, 1, 0, 32, 0)
  | 32 => (48, 0, 0, 33, 0)
  | 33 => (3, 3, 0, 34, 0)
  | 34 => (0, 3, 0, 35, 0)
  | 35 => (1, 0, 0, 36, 0)
  | 36 => (46, 5, 4, 39, 0)
  | 39 => (0, 2, 0, 40, 0)
  | 40 => (48, 0, 0, 41, 0)
  | 41 => (43, 166, 0, 44, 0)
  | 44 => (6, 0, 0, 45, (-1))
  | 45 => (3, 4, 0, 47, 0)
  | 47 => (0, 1, 0, 48, 0)
  | 48 => (3, 5, 0, 50, 0)
  | 50 => (0, 5, 0, 52, 0)
  | 52 => (0, 2, 0, 53, 0)
  | 53 => (43, 125, 0, 56, 0)
  | 56 => (1, 0, 0, 57, 0)
  | 57 => (46, 5, 5, 60, 0)
  | 60 => (0, 5, 0, 62, 0)
  | 62 => (0, 1, 0, 63, 0)
  | 63 => (9, 0, 0, 64, 0)
  | 64 => (48, 0, 0, 65, 0)
  | 65 => (3, 6, 0, 67, 0)
  | 67 => (0, 6, 0, 69, 0)
  | 69 => (1, 0, 0, 70, 0)
  | 70 => (46, 5, 4, 73, 0)
  | 73 => (0, 5, 0, 75, 0)
  | 75 => (6, 0, 0, 76, 1)
  | 76 => (8, 0, 0, 77, 0)
  | 77 => (48, 0, 0, 78, 0)
  | 78 => (43, 119, 0, 81, 0)
  | 81 => (0, 4, 0, 83, 0)
  | 83 => (6, 0, 0, 84, (-1))
  | 84 => (40, 113, 0, 87, 0)
  | 87 => (1, 0, 0, 88, 0)
  | 88 => (1, 0, 0, 89, 0)
  | 89 => (46, 5, 2, 92, 0)
  | 92 => (0, 6, 0, 94, 0)
  | 94 => (48, 0, 0, 95, 0)
  | 95 => (1, 0, 0, 96, 0)
  | 96 => (46, 5, 2, 99, 0)
  | 99 => (1, 0, 0, 100, 0)
  | 100 => (46, 5, 5, 103, 0)
  | 103 => (0, 4, 0, 105, 0)
  | 105 => (48, 0, 0, 106, 0)
  | 106 => (48, 0, 0, 107, 0)
  | 110 => (34, 119, 0, 113, 0)
  | 113 => (0, 5, 0, 115, 0)
  | 115 => (0, 1, 0, 116, 0)
  | 116 => (9, 0, 0, 117, 0)
  | 117 => (3, 4, 0, 119, 0)
  | 119 => (7, 5, 0, 122, 1)
  | 122 => (33, 50, 0, 125, 0)
  | 125 => (0, 4, 0, 127, 0)
  | 127 => (6, 0, 0, 128, (-1))
  | 128 => (40, 160, 0, 131, 0)
  | 131 => (1, 0, 0, 132, 0)
  | 132 => (46, 5, 3, 135, 0)
  | 135 => (0, 3, 0, 136, 0)
  | 136 => (1, 0, 0, 137, 0)
  | 137 => (46, 5, 2, 140, 0)
  | 140 => (1, 0, 0, 141, 0)
  | 141 => (46, 5, 5, 144, 0)
  | 144 => (0, 4, 0, 146, 0)
  | 146 => (48, 0, 0, 147, 0)
  | 147 => (48, 0, 0, 148, 0)
  | 148 => (49, 0, 0, 149, 0)
  | 149 => (1, 0, 0, 150, 0)
  | 150 => (46, 5, 5, 153, 0)
  | 153 => (0, 4, 0, 155, 0)
  | 155 => (32, 0, 0, 156, 0)
  | 156 => (48, 0, 0, 157, 0)
  | 157 => (6, 0, 0, 158, 1)
  | 158 => (8, 0, 0, 159, 0)
  | 159 => (49, 0, 0, 160, 0)
  | 160 => (7, 3, 0, 163, 1)
  | 163 => (33, 34, 0, 166, 0)
  | 166 => (55, 0, 0, 167, 0)
  | _ => (99, 0, 0, 0, 0)
def tX4_mergeGroup (pc : Nat) : zI := if pc < 167 then tmX4_mergeGroup pc else (99, 0, 0, 0, 0)
theorem tkX4_mergeGroup : z_tab RX4 wsX4_mergeGroup 7 none cX4_mergeGroup 167 tX4_mergeGroup := z_tab_of (tm := tmX4_mergeGroup) (by decide +kernel)
theorem sX4_mergeGroup_0 (lv : zL) (st : List Value) (w : zW) (nx K : Nat → zL → List Value → zW → Prop) (Rt : Option Value → zW → Prop) : z_st1 (tX4_mergeGroup 0) 0 lv st w nx K Rt = (z_li lv 1 (fun x => nx 1 lv (.int x :: st) w)) := id rfl
theorem sX4_mergeGroup_1 (lv : zL) (st : List Value) (w : zW) (nx K : Nat → zL → List Value → zW → Prop) (Rt : Option Value → zW → Prop) : z_st1 (tX4_mergeGroup 1) 1 lv st w nx K Rt = (z_1i st (fun x r => z_ok1 lv 3 = true ∧ nx 2 (lv.set 3 (some (.int x))) r w)) := id rfl
theorem sX4_mergeGroup_2 (lv : zL) (st : List Value) (w : zW) (nx K : Nat → zL → List Value → zW → Prop) (Rt : Option Value → zW → Prop) : z_st1 (tX4_mergeGroup 2) 2 lv st w nx K Rt = (z_li lv 3 (fun x => nx 3 lv (.int x :: st) w)) := id rfl
theorem sX4_mergeGroup_3 (lv : zL) (st : List Value) (w : zW) (nx K : Nat → zL → List Value → zW → Prop) (Rt : Option Value → zW → Prop) : z_st1 (tX4_mergeGroup 3) 3 lv st w nx K Rt = (z_li lv 2 (fun x => nx 4 lv (.int x :: st) w)) := id rfl
theorem sX4_mergeGroup_4 (lv : zL) (st : List Value) (w : zW) (nx K : Nat → zL → List Value → zW → Prop) (Rt : Option Value → zW → Prop) : z_st1 (tX4_mergeGroup 4) 4 lv st w nx K Rt = (z_2i st (fun x y r => (y ≤ x → nx 27 lv r w) ∧ (¬ y ≤ x → nx 7 lv r w))) := id rfl
theorem sX4_mergeGroup_7 (lv : zL) (st : List Value) (w : zW) (nx K : Nat → zL → List Value → zW → Prop) (Rt : Option Value → zW → Prop) : z_st1 (tX4_mergeGroup 7) 7 lv st w nx K Rt = (z_la lv 0 (fun x => nx 8 lv (.ref x :: st) w)) := id rfl
theorem sX4_mergeGroup_8 (lv : zL) (st : List Value) (w : zW) (nx K : Nat → zL → List Value → zW → Prop) (Rt : Option Value → zW → Prop) : z_st1 (tX4_mergeGroup 8) 8 lv st w nx K Rt = (z_1a st (fun x r => z_ob w x 5 (fun fs => z_fl fs 5 (fun u => nx 11 lv (u :: r) w)))) := id rfl
theorem sX4_mergeGroup_11 (lv : zL) (st : List Value) (w : zW) (nx K : Nat → zL → List Value → zW → Prop) (Rt : Option Value → zW → Prop) : z_st1 (tX4_mergeGroup 11) 11 lv st w nx K Rt = (z_li lv 3 (fun x => nx 12 lv (.int x :: st) w)) := id rfl
theorem sX4_mergeGroup_12 (lv : zL) (st : List Value) (w : zW) (nx K : Nat → zL → List Value → zW → Prop) (Rt : Option Value → zW → Prop) : z_st1 (tX4_mergeGroup 12) 12 lv st w nx K Rt = (z_li lv 1 (fun x => nx 13 lv (.int x :: st) w)) := id rfl
theorem sX4_mergeGroup_13 (lv : zL) (st : List Value) (w : zW) (nx K : Nat → zL → List Value → zW → Prop) (Rt : Option Value → zW → Prop) : z_st1 (tX4_mergeGroup 13) 13 lv st w nx K Rt = (z_2i st (fun x y r => nx 14 lv (.int (x - y) :: r) w)) := id rfl
theorem sX4_mergeGroup_14 (lv : zL) (st : List Value) (w : zW) (nx K : Nat → zL → List Value → zW → Prop) (Rt : Option Value → zW → Prop) : z_st1 (tX4_mergeGroup 14) 14 lv st w nx K Rt = (z_la lv 0 (fun x => nx 15 lv (.ref x :: st) w)) := id rfl
theorem sX4_mergeGroup_15 (lv : zL) (st : List Value) (w : zW) (nx K : Nat → zL → List Value → zW → Prop) (Rt : Option Value → zW → Prop) : z_st1 (tX4_mergeGroup 15) 15 lv st w nx K Rt = (z_1a st (fun x r => z_ob w x 5 (fun fs => z_fl fs 4 (fun u => nx 18 lv (u :: r) w)))) := id rfl
theorem sX4_mergeGroup_18 (lv : zL) (st : List Value) (w : zW) (nx K : Nat → zL → List Value → zW → Prop) (Rt : Option Value → zW → Prop) : z_st1 (tX4_mergeGroup 18) 18 lv st w nx K Rt = (z_li lv 3 (fun x => nx 19 lv (.int x :: st) w)) := id rfl
theorem sX4_mergeGroup_19 (lv : zL) (st : List Value) (w : zW) (nx K : Nat → zL → List Value → zW → Prop) (Rt : Option Value → zW → Prop) : z_st1 (tX4_mergeGroup 19) 19 lv st w nx K Rt = (z_ia st (fun x i r => z_ar0 w x (fun m g => vp_in i m ∧ nx 20 lv (.int (g i.toNatClampNeg) :: r) w))) := id rfl
theorem sX4_mergeGroup_20 (lv : zL) (st : List Value) (w : zW) (nx K : Nat → zL → List Value → zW → Prop) (Rt : Option Value → zW → Prop) : z_st1 (tX4_mergeGroup 20) 20 lv st w nx K Rt = (z_iia st (fun x i u r => z_ar0 w x (fun m g => vp_in i m ∧ nx 21 lv r (z_up w x (.inl (0, m, .inl (upd g i.toNatClampNeg u))))))) := id rfl
theorem sX4_mergeGroup_21 (lv : zL) (st : List Value) (w : zW) (nx K : Nat → zL → List Value → zW → Prop) (Rt : Option Value → zW → Prop) : z_st1 (tX4_mergeGroup 21) 21 lv st w nx K Rt = (z_li lv 3 (fun x => z_ok1 lv 3 = true ∧ nx 24 (lv.set 3 (some (.int (x + (1 : Int32))))) st w)) := id rfl
theorem sX4_mergeGroup_24 (lv : zL) (st : List Value) (w : zW) (nx K : Nat → zL → List Value → zW → Prop) (Rt : Option Value → zW → Prop) : z_st1 (tX4_mergeGroup 24) 24 lv st w nx K Rt = (nx 2 lv st w) := id rfl
theorem sX4_mergeGroup_27 (lv : zL) (st : List Value) (w : zW) (nx K : Nat → zL → List Value → zW → Prop) (Rt : Option Value → zW → Prop) : z_st1 (tX4_mergeGroup 27) 27 lv st w nx K Rt = (z_la lv 0 (fun x => nx 28 lv (.ref x :: st) w)) := id rfl
theorem sX4_mergeGroup_28 (lv : zL) (st : List Value) (w : zW) (nx K : Nat → zL → List Value → zW → Prop) (Rt : Option Value → zW → Prop) : z_st1 (tX4_mergeGroup 28) 28 lv st w nx K Rt = (z_1a st (fun x r => z_ob w x 5 (fun fs => z_fl fs 4 (fun u => nx 31 lv (u :: r) w)))) := id rfl
theorem sX4_mergeGroup_31 (lv : zL) (st : List Value) (w : zW) (nx K : Nat → zL → List Value → zW → Prop) (Rt : Option Value → zW → Prop) : z_st1 (tX4_mergeGroup 31) 31 lv st w nx K Rt = (z_li lv 1 (fun x => nx 32 lv (.int x :: st) w)) := id rfl
theorem sX4_mergeGroup_32 (lv : zL) (st : List Value) (w : zW) (nx K : Nat → zL → List Value → zW → Prop) (Rt : Option Value → zW → Prop) : z_st1 (tX4_mergeGroup 32) 32 lv st w nx K Rt = (z_ia st (fun x i r => z_ar0 w x (fun m g => vp_in i m ∧ nx 33 lv (.int (g i.toNatClampNeg) :: r) w))) := id rfl
theorem sX4_mergeGroup_33 (lv : zL) (st : List Value) (w : zW) (nx K : Nat → zL → List Value → zW → Prop) (Rt : Option Value → zW → Prop) : z_st1 (tX4_mergeGroup 33) 33 lv st w nx K Rt = (z_1i st (fun x r => z_ok1 lv 3 = true ∧ nx 34 (lv.set 3 (some (.int x))) r w)) := id rfl
theorem sX4_mergeGroup_34 (lv : zL) (st : List Value) (w : zW) (nx K : Nat → zL → List Value → zW → Prop) (Rt : Option Value → zW → Prop) : z_st1 (tX4_mergeGroup 34) 34 lv st w nx K Rt = (z_li lv 3 (fun x => nx 35 lv (.int x :: st) w)) := id rfl
theorem sX4_mergeGroup_35 (lv : zL) (st : List Value) (w : zW) (nx K : Nat → zL → List Value → zW → Prop) (Rt : Option Value → zW → Prop) : z_st1 (tX4_mergeGroup 35) 35 lv st w nx K Rt = (z_la lv 0 (fun x => nx 36 lv (.ref x :: st) w)) := id rfl
theorem sX4_mergeGroup_36 (lv : zL) (st : List Value) (w : zW) (nx K : Nat → zL → List Value → zW → Prop) (Rt : Option Value → zW → Prop) : z_st1 (tX4_mergeGroup 36) 36 lv st w nx K Rt = (z_1a st (fun x r => z_ob w x 5 (fun fs => z_fl fs 4 (fun u => nx 39 lv (u :: r) w)))) := id rfl
theorem sX4_mergeGroup_39 (lv : zL) (st : List Value) (w : zW) (nx K : Nat → zL → List Value → zW → Prop) (Rt : Option Value → zW → Prop) : z_st1 (tX4_mergeGroup 39) 39 lv st w nx K Rt = (z_li lv 2 (fun x => nx 40 lv (.int x :: st) w)) := id rfl
theorem sX4_mergeGroup_40 (lv : zL) (st : List Value) (w : zW) (nx K : Nat → zL → List Value → zW → Prop) (Rt : Option Value → zW → Prop) : z_st1 (tX4_mergeGroup 40) 40 lv st w nx K Rt = (z_ia st (fun x i r => z_ar0 w x (fun m g => vp_in i m ∧ nx 41 lv (.int (g i.toNatClampNeg) :: r) w))) := id rfl
theorem sX4_mergeGroup_41 (lv : zL) (st : List Value) (w : zW) (nx K : Nat → zL → List Value → zW → Prop) (Rt : Option Value → zW → Prop) : z_st1 (tX4_mergeGroup 41) 41 lv st w nx K Rt = (z_2i st (fun x y r => (y ≤ x → nx 166 lv r w) ∧ (¬ y ≤ x → nx 44 lv r w))) := id rfl
theorem sX4_mergeGroup_44 (lv : zL) (st : List Value) (w : zW) (nx K : Nat → zL → List Value → zW → Prop) (Rt : Option Value → zW → Prop) : z_st1 (tX4_mergeGroup 44) 44 lv st w nx K Rt = (nx 45 lv (.int (-1 : Int32) :: st) w) := id rfl
theorem sX4_mergeGroup_45 (lv : zL) (st : List Value) (w : zW) (nx K : Nat → zL → List Value → zW → Prop) (Rt : Option Value → zW → Prop) : z_st1 (tX4_mergeGroup 45) 45 lv st w nx K Rt = (z_1i st (fun x r => z_ok1 lv 4 = true ∧ nx 47 (lv.set 4 (some (.int x))) r w)) := id rfl
theorem sX4_mergeGroup_47 (lv : zL) (st : List Value) (w : zW) (nx K : Nat → zL → List Value → zW → Prop) (Rt : Option Value → zW → Prop) : z_st1 (tX4_mergeGroup 47) 47 lv st w nx K Rt = (z_li lv 1 (fun x => nx 48 lv (.int x :: st) w)) := id rfl
theorem sX4_mergeGroup_48 (lv : zL) (st : List Value) (w : zW) (nx K : Nat → zL → List Value → zW → Prop) (Rt : Option Value → zW → Prop) : z_st1 (tX4_mergeGroup 48) 48 lv st w nx K Rt = (z_1i st (fun x r => z_ok1 lv 5 = true ∧ nx 50 (lv.set 5 (some (.int x))) r w)) := id rfl
theorem sX4_mergeGroup_50 (lv : zL) (st : List Value) (w : zW) (nx K : Nat → zL → List Value → zW → Prop) (Rt : Option Value → zW → Prop) : z_st1 (tX4_mergeGroup 50) 50 lv st w nx K Rt = (z_li lv 5 (fun x => nx 52 lv (.int x :: st) w)) := id rfl
theorem sX4_mergeGroup_52 (lv : zL) (st : List Value) (w : zW) (nx K : Nat → zL → List Value → zW → Prop) (Rt : Option Value → zW → Prop) : z_st1 (tX4_mergeGroup 52) 52 lv st w nx K Rt = (z_li lv 2 (fun x => nx 53 lv (.int x :: st) w)) := id rfl
theorem sX4_mergeGroup_53 (lv : zL) (st : List Value) (w : zW) (nx K : Nat → zL → List Value → zW → Prop) (Rt : Option Value → zW → Prop) : z_st1 (tX4_mergeGroup 53) 53 lv st w nx K Rt = (z_2i st (fun x y r => (y ≤ x → nx 125 lv r w) ∧ (¬ y ≤ x → nx 56 lv r w))) := id rfl
theorem sX4_mergeGroup_56 (lv : zL) (st : List Value) (w : zW) (nx K : Nat → zL → List Value → zW → Prop) (Rt : Option Value → zW → Prop) : z_st1 (tX4_mergeGroup 56) 56 lv st w nx K Rt = (z_la lv 0 (fun x => nx 57 lv (.ref x :: st) w)) := id rfl
theorem sX4_mergeGroup_57 (lv : zL) (st : List Value) (w : zW) (nx K : Nat → zL → List Value → zW → Prop) (Rt : Option Value → zW → Prop) : z_st1 (tX4_mergeGroup 57) 57 lv st w nx K Rt = (z_1a st (fun x r => z_ob w x 5 (fun fs => z_fl fs 5 (fun u => nx 60 lv (u :: r) w)))) := id rfl
theorem sX4_mergeGroup_60 (lv : zL) (st : List Value) (w : zW) (nx K : Nat → zL → List Value → zW → Prop) (Rt : Option Value → zW → Prop) : z_st1 (tX4_mergeGroup 60) 60 lv st w nx K Rt = (z_li lv 5 (fun x => nx 62 lv (.int x :: st) w)) := id rfl
theorem sX4_mergeGroup_62 (lv : zL) (st : List Value) (w : zW) (nx K : Nat → zL → List Value → zW → Prop) (Rt : Option Value → zW → Prop) : z_st1 (tX4_mergeGroup 62) 62 lv st w nx K Rt = (z_li lv 1 (fun x => nx 63 lv (.int x :: st) w)) := id rfl
theorem sX4_mergeGroup_63 (lv : zL) (st : List Value) (w : zW) (nx K : Nat → zL → List Value → zW → Prop) (Rt : Option Value → zW → Prop) : z_st1 (tX4_mergeGroup 63) 63 lv st w nx K Rt = (z_2i st (fun x y r => nx 64 lv (.int (x - y) :: r) w)) := id rfl
theorem sX4_mergeGroup_64 (lv : zL) (st : List Value) (w : zW) (nx K : Nat → zL → List Value → zW → Prop) (Rt : Option Value → zW → Prop) : z_st1 (tX4_mergeGroup 64) 64 lv st w nx K Rt = (z_ia st (fun x i r => z_ar0 w x (fun m g => vp_in i m ∧ nx 65 lv (.int (g i.toNatClampNeg) :: r) w))) := id rfl
theorem sX4_mergeGroup_65 (lv : zL) (st : List Value) (w : zW) (nx K : Nat → zL → List Value → zW → Prop) (Rt : Option Value → zW → Prop) : z_st1 (tX4_mergeGroup 65) 65 lv st w nx K Rt = (z_1i st (fun x r => z_ok1 lv 6 = true ∧ nx 67 (lv.set 6 (some (.int x))) r w)) := id rfl
theorem sX4_mergeGroup_67 (lv : zL) (st : List Value) (w : zW) (nx K : Nat → zL → List Value → zW → Prop) (Rt : Option Value → zW → Prop) : z_st1 (tX4_mergeGroup 67) 67 lv st w nx K Rt = (z_li lv 6 (fun x => nx 69 lv (.int x :: st) w)) := id rfl
theorem sX4_mergeGroup_69 (lv : zL) (st : List Value) (w : zW) (nx K : Nat → zL → List Value → zW → Prop) (Rt : Option Value → zW → Prop) : z_st1 (tX4_mergeGroup 69) 69 lv st w nx K Rt = (z_la lv 0 (fun x => nx 70 lv (.ref x :: st) w)) := id rfl
theorem sX4_mergeGroup_70 (lv : zL) (st : List Value) (w : zW) (nx K : Nat → zL → List Value → zW → Prop) (Rt : Option Value → zW → Prop) : z_st1 (tX4_mergeGroup 70) 70 lv st w nx K Rt = (z_1a st (fun x r => z_ob w x 5 (fun fs => z_fl fs 4 (fun u => nx 73 lv (u :: r) w)))) := id rfl
theorem sX4_mergeGroup_73 (lv : zL) (st : List Value) (w : zW) (nx K : Nat → zL → List Value → zW → Prop) (Rt : Option Value → zW → Prop) : z_st1 (tX4_mergeGroup 73) 73 lv st w nx K Rt = (z_li lv 5 (fun x => nx 75 lv (.int x :: st) w)) := id rfl
theorem sX4_mergeGroup_75 (lv : zL) (st : List Value) (w : zW) (nx K : Nat → zL → List Value → zW → Prop) (Rt : Option Value → zW → Prop) : z_st1 (tX4_mergeGroup 75) 75 lv st w nx K Rt = (nx 76 lv (.int (1 : Int32) :: st) w) := id rfl
theorem sX4_mergeGroup_76 (lv : zL) (st : List Value) (w : zW) (nx K : Nat → zL → List Value → zW → Prop) (Rt : Option Value → zW → Prop) : z_st1 (tX4_mergeGroup 76) 76 lv st w nx K Rt = (z_2i st (fun x y r => nx 77 lv (.int (x + y) :: r) w)) := id rfl
theorem sX4_mergeGroup_77 (lv : zL) (st : List Value) (w : zW) (nx K : Nat → zL → List Value → zW → Prop) (Rt : Option Value → zW → Prop) : z_st1 (tX4_mergeGroup 77) 77 lv st w nx K Rt = (z_ia st (fun x i r => z_ar0 w x (fun m g => vp_in i m ∧ nx 78 lv (.int (g i.toNatClampNeg) :: r) w))) := id rfl
theorem sX4_mergeGroup_78 (lv : zL) (st : List Value) (w : zW) (nx K : Nat → zL → List Value → zW → Prop) (Rt : Option Value → zW → Prop) : z_st1 (tX4_mergeGroup 78) 78 lv st w nx K Rt = (z_2i st (fun x y r => (y ≤ x → nx 119 lv r w) ∧ (¬ y ≤ x → nx 81 lv r w))) := id rfl
theorem sX4_mergeGroup_81 (lv : zL) (st : List Value) (w : zW) (nx K : Nat → zL → List Value → zW → Prop) (Rt : Option Value → zW → Prop) : z_st1 (tX4_mergeGroup 81) 81 lv st w nx K Rt = (z_li lv 4 (fun x => nx 83 lv (.int x :: st) w)) := id rfl
theorem sX4_mergeGroup_83 (lv : zL) (st : List Value) (w : zW) (nx K : Nat → zL → List Value → zW → Prop) (Rt : Option Value → zW → Prop) : z_st1 (tX4_mergeGroup 83) 83 lv st w nx K Rt = (nx 84 lv (.int (-1 : Int32) :: st) w) := id rfl
theorem sX4_mergeGroup_84 (lv : zL) (st : List Value) (w : zW) (nx K : Nat → zL → List Value → zW → Prop) (Rt : Option Value → zW → Prop) : z_st1 (tX4_mergeGroup 84) 84 lv st w nx K Rt = (z_2i st (fun x y r => (x = y → nx 113 lv r w) ∧ (¬ x = y → nx 87 lv r w))) := id rfl
theorem sX4_mergeGroup_87 (lv : zL) (st : List Value) (w : zW) (nx K : Nat → zL → List Value → zW → Prop) (Rt : Option Value → zW → Prop) : z_st1 (tX4_mergeGroup 87) 87 lv st w nx K Rt = (z_la lv 0 (fun x => nx 88 lv (.ref x :: st) w)) := id rfl
theorem sX4_mergeGroup_88 (lv : zL) (st : List Value) (w : zW) (nx K : Nat → zL → List Value → zW → Prop) (Rt : Option Value → zW → Prop) : z_st1 (tX4_mergeGroup 88) 88 lv st w nx K Rt = (z_la lv 0 (fun x => nx 89 lv (.ref x :: st) w)) := id rfl
theorem sX4_mergeGroup_89 (lv : zL) (st : List Value) (w : zW) (nx K : Nat → zL → List Value → zW → Prop) (Rt : Option Value → zW → Prop) : z_st1 (tX4_mergeGroup 89) 89 lv st w nx K Rt = (z_1a st (fun x r => z_ob w x 5 (fun fs => z_fl fs 2 (fun u => nx 92 lv (u :: r) w)))) := id rfl
theorem sX4_mergeGroup_92 (lv : zL) (st : List Value) (w : zW) (nx K : Nat → zL → List Value → zW → Prop) (Rt : Option Value → zW → Prop) : z_st1 (tX4_mergeGroup 92) 92 lv st w nx K Rt = (z_li lv 6 (fun x => nx 94 lv (.int x :: st) w)) := id rfl
theorem sX4_mergeGroup_94 (lv : zL) (st : List Value) (w : zW) (nx K : Nat → zL → List Value → zW → Prop) (Rt : Option Value → zW → Prop) : z_st1 (tX4_mergeGroup 94) 94 lv st w nx K Rt = (z_ia st (fun x i r => z_ar0 w x (fun m g => vp_in i m ∧ nx 95 lv (.int (g i.toNatClampNeg) :: r) w))) := id rfl
theorem sX4_mergeGroup_95 (lv : zL) (st : List Value) (w : zW) (nx K : Nat → zL → List Value → zW → Prop) (Rt : Option Value → zW → Prop) : z_st1 (tX4_mergeGroup 95) 95 lv st w nx K Rt = (z_la lv 0 (fun x => nx 96 lv (.ref x :: st) w)) := id rfl
theorem sX4_mergeGroup_96 (lv : zL) (st : List Value) (w : zW) (nx K : Nat → zL → List Value → zW → Prop) (Rt : Option Value → zW → Prop) : z_st1 (tX4_mergeGroup 96) 96 lv st w nx K Rt = (z_1a st (fun x r => z_ob w x 5 (fun fs => z_fl fs 2 (fun u => nx 99 lv (u :: r) w)))) := id rfl
theorem sX4_mergeGroup_99 (lv : zL) (st : List Value) (w : zW) (nx K : Nat → zL → List Value → zW → Prop) (Rt : Option Value → zW → Prop) : z_st1 (tX4_mergeGroup 99) 99 lv st w nx K Rt = (z_la lv 0 (fun x => nx 100 lv (.ref x :: st) w)) := id rfl
theorem sX4_mergeGroup_100 (lv : zL) (st : List Value) (w : zW) (nx K : Nat → zL → List Value → zW → Prop) (Rt : Option Value → zW → Prop) : z_st1 (tX4_mergeGroup 100) 100 lv st w nx K Rt = (z_1a st (fun x r => z_ob w x 5 (fun fs => z_fl fs 5 (fun u => nx 103 lv (u :: r) w)))) := id rfl
theorem sX4_mergeGroup_103 (lv : zL) (st : List Value) (w : zW) (nx K : Nat → zL → List Value → zW → Prop) (Rt : Option Value → zW → Prop) : z_st1 (tX4_mergeGroup 103) 103 lv st w nx K Rt = (z_li lv 4 (fun x => nx 105 lv (.int x :: st) w)) := id rfl
theorem sX4_mergeGroup_105 (lv : zL) (st : List Value) (w : zW) (nx K : Nat → zL → List Value → zW → Prop) (Rt : Option Value → zW → Prop) : z_st1 (tX4_mergeGroup 105) 105 lv st w nx K Rt = (z_ia st (fun x i r => z_ar0 w x (fun m g => vp_in i m ∧ nx 106 lv (.int (g i.toNatClampNeg) :: r) w))) := id rfl
theorem sX4_mergeGroup_106 (lv : zL) (st : List Value) (w : zW) (nx K : Nat → zL → List Value → zW → Prop) (Rt : Option Value → zW → Prop) : z_st1 (tX4_mergeGroup 106) 106 lv st w nx K Rt = (z_ia st (fun x i r => z_ar0 w x (fun m g => vp_in i m ∧ nx 107 lv (.int (g i.toNatClampNeg) :: r) w))) := id rfl
theorem sX4_mergeGroup_110 (lv : zL) (st : List Value) (w : zW) (nx K : Nat → zL → List Value → zW → Prop) (Rt : Option Value → zW → Prop) : z_st1 (tX4_mergeGroup 110) 110 lv st w nx K Rt = (z_1i st (fun x r => (x = 0 → nx 119 lv r w) ∧ (¬ x = 0 → nx 113 lv r w))) := id rfl
theorem sX4_mergeGroup_113 (lv : zL) (st : List Value) (w : zW) (nx K : Nat → zL → List Value → zW → Prop) (Rt : Option Value → zW → Prop) : z_st1 (tX4_mergeGroup 113) 113 lv st w nx K Rt = (z_li lv 5 (fun x => nx 115 lv (.int x :: st) w)) := id rfl
theorem sX4_mergeGroup_115 (lv : zL) (st : List Value) (w : zW) (nx K : Nat → zL → List Value → zW → Prop) (Rt : Option Value → zW → Prop) : z_st1 (tX4_mergeGroup 115) 115 lv st w nx K Rt = (z_li lv 1 (fun x => nx 116 lv (.int x :: st) w)) := id rfl
theorem sX4_mergeGroup_116 (lv : zL) (st : List Value) (w : zW) (nx K : Nat → zL → List Value → zW → Prop) (Rt : Option Value → zW → Prop) : z_st1 (tX4_mergeGroup 116) 116 lv st w nx K Rt = (z_2i st (fun x y r => nx 117 lv (.int (x - y) :: r) w)) := id rfl
theorem sX4_mergeGroup_117 (lv : zL) (st : List Value) (w : zW) (nx K : Nat → zL → List Value → zW → Prop) (Rt : Option Value → zW → Prop) : z_st1 (tX4_mergeGroup 117) 117 lv st w nx K Rt = (z_1i st (fun x r => z_ok1 lv 4 = true ∧ nx 119 (lv.set 4 (some (.int x))) r w)) := id rfl
theorem sX4_mergeGroup_119 (lv : zL) (st : List Value) (w : zW) (nx K : Nat → zL → List Value → zW → Prop) (Rt : Option Value → zW → Prop) : z_st1 (tX4_mergeGroup 119) 119 lv st w nx K Rt = (z_li lv 5 (fun x => z_ok1 lv 5 = true ∧ nx 122 (lv.set 5 (some (.int (x + (1 : Int32))))) st w)) := id rfl
theorem sX4_mergeGroup_122 (lv : zL) (st : List Value) (w : zW) (nx K : Nat → zL → List Value → zW → Prop) (Rt : Option Value → zW → Prop) : z_st1 (tX4_mergeGroup 122) 122 lv st w nx K Rt = (nx 50 lv st w) := id rfl
theorem sX4_mergeGroup_125 (lv : zL) (st : List Value) (w : zW) (nx K : Nat → zL → List Value → zW → Prop) (Rt : Option Value → zW → Prop) : z_st1 (tX4_mergeGroup 125) 125 lv st w nx K Rt = (z_li lv 4 (fun x => nx 127 lv (.int x :: st) w)) := id rfl
theorem sX4_mergeGroup_127 (lv : zL) (st : List Value) (w : zW) (nx K : Nat → zL → List Value → zW → Prop) (Rt : Option Value → zW → Prop) : z_st1 (tX4_mergeGroup 127) 127 lv st w nx K Rt = (nx 128 lv (.int (-1 : Int32) :: st) w) := id rfl
theorem sX4_mergeGroup_128 (lv : zL) (st : List Value) (w : zW) (nx K : Nat → zL → List Value → zW → Prop) (Rt : Option Value → zW → Prop) : z_st1 (tX4_mergeGroup 128) 128 lv st w nx K Rt = (z_2i st (fun x y r => (x = y → nx 160 lv r w) ∧ (¬ x = y → nx 131 lv r w))) := id rfl
theorem sX4_mergeGroup_131 (lv : zL) (st : List Value) (w : zW) (nx K : Nat → zL → List Value → zW → Prop) (Rt : Option Value → zW → Prop) : z_st1 (tX4_mergeGroup 131) 131 lv st w nx K Rt = (z_la lv 0 (fun x => nx 132 lv (.ref x :: st) w)) := id rfl
theorem sX4_mergeGroup_132 (lv : zL) (st : List Value) (w : zW) (nx K : Nat → zL → List Value → zW → Prop) (Rt : Option Value → zW → Prop) : z_st1 (tX4_mergeGroup 132) 132 lv st w nx K Rt = (z_1a st (fun x r => z_ob w x 5 (fun fs => z_fl fs 3 (fun u => nx 135 lv (u :: r) w)))) := id rfl
theorem sX4_mergeGroup_135 (lv : zL) (st : List Value) (w : zW) (nx K : Nat → zL → List Value → zW → Prop) (Rt : Option Value → zW → Prop) : z_st1 (tX4_mergeGroup 135) 135 lv st w nx K Rt = (z_li lv 3 (fun x => nx 136 lv (.int x :: st) w)) := id rfl
theorem sX4_mergeGroup_136 (lv : zL) (st : List Value) (w : zW) (nx K : Nat → zL → List Value → zW → Prop) (Rt : Option Value → zW → Prop) : z_st1 (tX4_mergeGroup 136) 136 lv st w nx K Rt = (z_la lv 0 (fun x => nx 137 lv (.ref x :: st) w)) := id rfl
theorem sX4_mergeGroup_137 (lv : zL) (st : List Value) (w : zW) (nx K : Nat → zL → List Value → zW → Prop) (Rt : Option Value → zW → Prop) : z_st1 (tX4_mergeGroup 137) 137 lv st w nx K Rt = (z_1a st (fun x r => z_ob w x 5 (fun fs => z_fl fs 2 (fun u => nx 140 lv (u :: r) w)))) := id rfl
theorem sX4_mergeGroup_140 (lv : zL) (st : List Value) (w : zW) (nx K : Nat → zL → List Value → zW → Prop) (Rt : Option Value → zW → Prop) : z_st1 (tX4_mergeGroup 140) 140 lv st w nx K Rt = (z_la lv 0 (fun x => nx 141 lv (.ref x :: st) w)) := id rfl
theorem sX4_mergeGroup_141 (lv : zL) (st : List Value) (w : zW) (nx K : Nat → zL → List Value → zW → Prop) (Rt : Option Value → zW → Prop) : z_st1 (tX4_mergeGroup 141) 141 lv st w nx K Rt = (z_1a st (fun x r => z_ob w x 5 (fun fs => z_fl fs 5 (fun u => nx 144 lv (u :: r) w)))) := id rfl
theorem sX4_mergeGroup_144 (lv : zL) (st : List Value) (w : zW) (nx K : Nat → zL → List Value → zW → Prop) (Rt : Option Value → zW → Prop) : z_st1 (tX4_mergeGroup 144) 144 lv st w nx K Rt = (z_li lv 4 (fun x => nx 146 lv (.int x :: st) w)) := id rfl
theorem sX4_mergeGroup_146 (lv : zL) (st : List Value) (w : zW) (nx K : Nat → zL → List Value → zW → Prop) (Rt : Option Value → zW → Prop) : z_st1 (tX4_mergeGroup 146) 146 lv st w nx K Rt = (z_ia st (fun x i r => z_ar0 w x (fun m g => vp_in i m ∧ nx 147 lv (.int (g i.toNatClampNeg) :: r) w))) := id rfl
theorem sX4_mergeGroup_147 (lv : zL) (st : List Value) (w : zW) (nx K : Nat → zL → List Value → zW → Prop) (Rt : Option Value → zW → Prop) : z_st1 (tX4_mergeGroup 147) 147 lv st w nx K Rt = (z_ia st (fun x i r => z_ar0 w x (fun m g => vp_in i m ∧ nx 148 lv (.int (g i.toNatClampNeg) :: r) w))) := id rfl
theorem sX4_mergeGroup_148 (lv : zL) (st : List Value) (w : zW) (nx K : Nat → zL → List Value → zW → Prop) (Rt : Option Value → zW → Prop) : z_st1 (tX4_mergeGroup 148) 148 lv st w nx K Rt = (z_iia st (fun x i u r => z_ar0 w x (fun m g => vp_in i m ∧ nx 149 lv r (z_up w x (.inl (0, m, .inl (upd g i.toNatClampNeg u))))))) := id rfl
theorem sX4_mergeGroup_149 (lv : zL) (st : List Value) (w : zW) (nx K : Nat → zL → List Value → zW → Prop) (Rt : Option Value → zW → Prop) : z_st1 (tX4_mergeGroup 149) 149 lv st w nx K Rt = (z_la lv 0 (fun x => nx 150 lv (.ref x :: st) w)) := id rfl
theorem sX4_mergeGroup_150 (lv : zL) (st : List Value) (w : zW) (nx K : Nat → zL → List Value → zW → Prop) (Rt : Option Value → zW → Prop) : z_st1 (tX4_mergeGroup 150) 150 lv st w nx K Rt = (z_1a st (fun x r => z_ob w x 5 (fun fs => z_fl fs 5 (fun u => nx 153 lv (u :: r) w)))) := id rfl
theorem sX4_mergeGroup_153 (lv : zL) (st : List Value) (w : zW) (nx K : Nat → zL → List Value → zW → Prop) (Rt : Option Value → zW → Prop) : z_st1 (tX4_mergeGroup 153) 153 lv st w nx K Rt = (z_li lv 4 (fun x => nx 155 lv (.int x :: st) w)) := id rfl
theorem sX4_mergeGroup_155 (lv : zL) (st : List Value) (w : zW) (nx K : Nat → zL → List Value → zW → Prop) (Rt : Option Value → zW → Prop) : z_st1 (tX4_mergeGroup 155) 155 lv st w nx K Rt = (z_dia st (fun x i r => nx 156 lv (.int i :: .ref x :: .int i :: .ref x :: r) w)) := id rfl
theorem sX4_mergeGroup_156 (lv : zL) (st : List Value) (w : zW) (nx K : Nat → zL → List Value → zW → Prop) (Rt : Option Value → zW → Prop) : z_st1 (tX4_mergeGroup 156) 156 lv st w nx K Rt = (z_ia st (fun x i r => z_ar0 w x (fun m g => vp_in i m ∧ nx 157 lv (.int (g i.toNatClampNeg) :: r) w))) := id rfl
theorem sX4_mergeGroup_157 (lv : zL) (st : List Value) (w : zW) (nx K : Nat → zL → List Value → zW → Prop) (Rt : Option Value → zW → Prop) : z_st1 (tX4_mergeGroup 157) 157 lv st w nx K Rt = (nx 158 lv (.int (1 : Int32) :: st) w) := id rfl
theorem sX4_mergeGroup_158 (lv : zL) (st : List Value) (w : zW) (nx K : Nat → zL → List Value → zW → Prop) (Rt : Option Value → zW → Prop) : z_st1 (tX4_mergeGroup 158) 158 lv st w nx K Rt = (z_2i st (fun x y r => nx 159 lv (.int (x + y) :: r) w)) := id rfl
theorem sX4_mergeGroup_159 (lv : zL) (st : List Value) (w : zW) (nx K : Nat → zL → List Value → zW → Prop) (Rt : Option Value → zW → Prop) : z_st1 (tX4_mergeGroup 159) 159 lv st w nx K Rt = (z_iia st (fun x i u r => z_ar0 w x (fun m g => vp_in i m ∧ nx 160 lv r (z_up w x (.inl (0, m, .inl (upd g i.toNatClampNeg u))))))) := id rfl
theorem sX4_mergeGroup_160 (lv : zL) (st : List Value) (w : zW) (nx K : Nat → zL → List Value → zW → Prop) (Rt : Option Value → zW → Prop) : z_st1 (tX4_mergeGroup 160) 160 lv st w nx K Rt = (z_li lv 3 (fun x => z_ok1 lv 3 = true ∧ nx 163 (lv.set 3 (some (.int (x + (1 : Int32))))) st w)) := id rfl
theorem sX4_mergeGroup_163 (lv : zL) (st : List Value) (w : zW) (nx K : Nat → zL → List Value → zW → Prop) (Rt : Option Value → zW → Prop) : z_st1 (tX4_mergeGroup 163) 163 lv st w nx K Rt = (nx 34 lv st w) := id rfl
theorem sX4_mergeGroup_166 (lv : zL) (st : List Value) (w : zW) (nx K : Nat → zL → List Value → zW → Prop) (Rt : Option Value → zW → Prop) : z_st1 (tX4_mergeGroup 166) 166 lv st w nx K Rt = (z_e0 st (Rt none w)) := id rfl
theorem sX4_mergeGroup_107 (lv : zL) (st : List Value) (w : zW) (nx K : Nat → zL → List Value → zW → Prop) (Rt : Option Value → zW → Prop) : z_st1 (tX4_mergeGroup 107) 107 lv st w nx K Rt = K 107 lv st w := id rfl
theorem dX4_mergeGroup_107 : decode cX4_mergeGroup 107 = .ok (.invokevirtual 59, 3) := by decide +kernel

def tmX5_init (pc : Nat) : zI := match pc with
  | 0 => (1, 0, 0, 1, 0)
  | 4 => (1, 0, 0, 5, 0)
  | 5 => (0, 1, 0, 6, 0)
  | 6 => (6, 0, 0, 7, 0)
  | 10 => (6, 0, 0, 13, 1600)
  | 19 => (1, 0, 0, 20, 0)
  | 20 => (1, 0, 0, 21, 0)
  | 21 => (46, 6, 0, 24, 0)
  | 29 => (1, 0, 0, 30, 0)
  | 30 => (1, 0, 0, 31, 0)
  | 31 => (46, 6, 0, 34, 0)
  | 39 => (1, 0, 0, 40, 0)
  | 40 => (1, 0, 0, 41, 0)
  | 41 => (46, 6, 0, 44, 0)
  | 44 => (6, 0, 0, 46, 32)
  | 46 => (10, 0, 0, 47, 0)
  | 52 => (55, 0, 0, 53, 0)
  | _ => (99, 0, 0, 0, 0)
def tX5_init (pc : Nat) : zI := if pc < 53 then tmX5_init pc else (99, 0, 0, 0, 0)
theorem tkX5_init : z_tab RX5 wsX5_init 2 none cX5_init 53 tX5_init := z_tab_of (tm := tmX5_init) (by decide +kernel)
theorem sX5_init_0 (lv : zL) (st : List Value) (w : zW) (nx K : Nat → zL → List Value → zW → Prop) (Rt : Option Value → zW → Prop) : z_st1 (tX5_init 0) 0 lv st w nx K Rt = (z_la lv 0 (fun x => nx 1 lv (.ref x :: st) w)) := id rfl
theorem sX5_init_4 (lv : zL) (st : List Value) (w : zW) (nx K : Nat → zL → List Value → zW → Prop) (Rt : Option Value → zW → Prop) : z_st1 (tX5_init 4) 4 lv st w nx K Rt = (z_la lv 0 (fun x => nx 5 lv (.ref x :: st) w)) := id rfl
theorem sX5_init_5 (lv : zL) (st : List Value) (w : zW) (nx K : Nat → zL → List Value → zW → Prop) (Rt : Option Value → zW → Prop) : z_st1 (tX5_init 5) 5 lv st w nx K Rt = (z_li lv 1 (fun x => nx 6 lv (.int x :: st) w)) := id rfl
theorem sX5_init_6 (lv : zL) (st : List Value) (w : zW) (nx K : Nat → zL → List Value → zW → Prop) (Rt : Option Value → zW → Prop) : z_st1 (tX5_init 6) 6 lv st w nx K Rt = (nx 7 lv (.int (0 : Int32) :: st) w) := id rfl
theorem sX5_init_10 (lv : zL) (st : List Value) (w : zW) (nx K : Nat → zL → List Value → zW → Prop) (Rt : Option Value → zW → Prop) : z_st1 (tX5_init 10) 10 lv st w nx K Rt = (nx 13 lv (.int (1600 : Int32) :: st) w) := id rfl
theorem sX5_init_19 (lv : zL) (st : List Value) (w : zW) (nx K : Nat → zL → List Value → zW → Prop) (Rt : Option Value → zW → Prop) : z_st1 (tX5_init 19) 19 lv st w nx K Rt = (z_la lv 0 (fun x => nx 20 lv (.ref x :: st) w)) := id rfl
theorem sX5_init_20 (lv : zL) (st : List Value) (w : zW) (nx K : Nat → zL → List Value → zW → Prop) (Rt : Option Value → zW → Prop) : z_st1 (tX5_init 20) 20 lv st w nx K Rt = (z_la lv 0 (fun x => nx 21 lv (.ref x :: st) w)) := id rfl
theorem sX5_init_21 (lv : zL) (st : List Value) (w : zW) (nx K : Nat → zL → List Value → zW → Prop) (Rt : Option Value → zW → Prop) : z_st1 (tX5_init 21) 21 lv st w nx K Rt = (z_1a st (fun x r => z_ob w x 6 (fun fs => z_fl fs 0 (fun u => nx 24 lv (u :: r) w)))) := id rfl
theorem sX5_init_29 (lv : zL) (st : List Value) (w : zW) (nx K : Nat → zL → List Value → zW → Prop) (Rt : Option Value → zW → Prop) : z_st1 (tX5_init 29) 29 lv st w nx K Rt = (z_la lv 0 (fun x => nx 30 lv (.ref x :: st) w)) := id rfl
theorem sX5_init_30 (lv : zL) (st : List Value) (w : zW) (nx K : Nat → zL → List Value → zW → Prop) (Rt : Option Value → zW → Prop) : z_st1 (tX5_init 30) 30 lv st w nx K Rt = (z_la lv 0 (fun x => nx 31 lv (.ref x :: st) w)) := id rfl
theorem sX5_init_31 (lv : zL) (st : List Value) (w : zW) (nx K : Nat → zL → List Value → zW → Prop) (Rt : Option Value → zW → Prop) : z_st1 (tX5_init 31) 31 lv st w nx K Rt = (z_1a st (fun x r => z_ob w x 6 (fun fs => z_fl fs 0 (fun u => nx 34 lv (u :: r) w)))) := id rfl
theorem sX5_init_39 (lv : zL) (st : List Value) (w : zW) (nx K : Nat → zL → List Value → zW → Prop) (Rt : Option Value → zW → Prop) : z_st1 (tX5_init 39) 39 lv st w nx K Rt = (z_la lv 0 (fun x => nx 40 lv (.ref x :: st) w)) := id rfl
theorem sX5_init_40 (lv : zL) (st : List Value) (w : zW) (nx K : Nat → zL → List Value → zW → Prop) (Rt : Option Value → zW → Prop) : z_st1 (tX5_init 40) 40 lv st w nx K Rt = (z_la lv 0 (fun x => nx 41 lv (.ref x :: st) w)) := id rfl
theorem sX5_init_41 (lv : zL) (st : List Value) (w : zW) (nx K : Nat → zL → List Value → zW → Prop) (Rt : Option Value → zW → Prop) : z_st1 (tX5_init 41) 41 lv st w nx K Rt = (z_1a st (fun x r => z_ob w x 6 (fun fs => z_fl fs 0 (fun u => nx 44 lv (u :: r) w)))) := id rfl
theorem sX5_init_44 (lv : zL) (st : List Value) (w : zW) (nx K : Nat → zL → List Value → zW → Prop) (Rt : Option Value → zW → Prop) : z_st1 (tX5_init 44) 44 lv st w nx K Rt = (nx 46 lv (.int (32 : Int32) :: st) w) := id rfl
theorem sX5_init_46 (lv : zL) (st : List Value) (w : zW) (nx K : Nat → zL → List Value → zW → Prop) (Rt : Option Value → zW → Prop) : z_st1 (tX5_init 46) 46 lv st w nx K Rt = (z_2i st (fun x y r => nx 47 lv (.int (x * y) :: r) w)) := id rfl
theorem sX5_init_52 (lv : zL) (st : List Value) (w : zW) (nx K : Nat → zL → List Value → zW → Prop) (Rt : Option Value → zW → Prop) : z_st1 (tX5_init 52) 52 lv st w nx K Rt = (z_e0 st (Rt none w)) := id rfl
theorem sX5_init_1 (lv : zL) (st : List Value) (w : zW) (nx K : Nat → zL → List Value → zW → Prop) (Rt : Option Value → zW → Prop) : z_st1 (tX5_init 1) 1 lv st w nx K Rt = K 1 lv st w := id rfl
theorem sX5_init_7 (lv : zL) (st : List Value) (w : zW) (nx K : Nat → zL → List Value → zW → Prop) (Rt : Option Value → zW → Prop) : z_st1 (tX5_init 7) 7 lv st w nx K Rt = K 7 lv st w := id rfl
theorem sX5_init_13 (lv : zL) (st : List Value) (w : zW) (nx K : Nat → zL → List Value → zW → Prop) (Rt : Option Value → zW → Prop) : z_st1 (tX5_init 13) 13 lv st w nx K Rt = K 13 lv st w := id rfl
theorem sX5_init_16 (lv : zL) (st : List Value) (w : zW) (nx K : Nat → zL → List Value → zW → Prop) (Rt : Option Value → zW → Prop) : z_st1 (tX5_init 16) 16 lv st w nx K Rt = K 16 lv st w := id rfl
theorem sX5_init_24 (lv : zL) (st : List Value) (w : zW) (nx K : Nat → zL → List Value → zW → Prop) (Rt : Option Value → zW → Prop) : z_st1 (tX5_init 24) 24 lv st w nx K Rt = K 24 lv st w := id rfl
theorem sX5_init_26 (lv : zL) (st : List Value) (w : zW) (nx K : Nat → zL → List Value → zW → Prop) (Rt : Option Value → zW → Prop) : z_st1 (tX5_init 26) 26 lv st w nx K Rt = K 26 lv st w := id rfl
theorem sX5_init_34 (lv : zL) (st : List Value) (w : zW) (nx K : Nat → zL → List Value → zW → Prop) (Rt : Option Value → zW → Prop) : z_st1 (tX5_init 34) 34 lv st w nx K Rt = K 34 lv st w := id rfl
theorem sX5_init_36 (lv : zL) (st : List Value) (w : zW) (nx K : Nat → zL → List Value → zW → Prop) (Rt : Option Value → zW → Prop) : z_st1 (tX5_init 36) 36 lv st w nx K Rt = K 36 lv st w := id rfl
theorem sX5_init_47 (lv : zL) (st : List Value) (w : zW) (nx K : Nat → zL → List Value → zW → Prop) (Rt : Option Value → zW → Prop) : z_st1 (tX5_init 47) 47 lv st w nx K Rt = K 47 lv st w := id rfl
theorem sX5_init_49 (lv : zL) (st : List Value) (w : zW) (nx K : Nat → zL → List Value → zW → Prop) (Rt : Option Value → zW → Prop) : z_st1 (tX5_init 49) 49 lv st w nx K Rt = K 49 lv st w := id rfl
theorem dX5_init_1 : decode cX5_init 1 = .ok (.invokespecial 3, 3) := by decide +kernel
theorem dX5_init_7 : decode cX5_init 7 = .ok (.invokestatic 9, 3) := by decide +kernel
theorem dX5_init_13 : decode cX5_init 13 = .ok (.invokestatic 15, 3) := by decide +kernel
theorem dX5_init_16 : decode cX5_init 16 = .ok (.putfield 18, 3) := by decide +kernel
theorem dX5_init_24 : decode cX5_init 24 = .ok (.newarray .int, 2) := by decide +kernel
theorem dX5_init_26 : decode cX5_init 26 = .ok (.putfield 24, 3) := by decide +kernel
theorem dX5_init_34 : decode cX5_init 34 = .ok (.newarray .int, 2) := by decide +kernel
theorem dX5_init_36 : decode cX5_init 36 = .ok (.putfield 28, 3) := by decide +kernel
theorem dX5_init_47 : decode cX5_init 47 = .ok (.newarray .int, 2) := by decide +kernel
theorem dX5_init_49 : decode cX5_init 49 = .ok (.putfield 31, 3) := by decide +kernel

def tmX5_held (pc : Nat) : zI := match pc with
  | 0 => (1, 0, 0, 1, 0)
  | 1 => (46, 6, 4, 4, 0)
  | 4 => (53, 0, 0, 5, 0)
  | _ => (99, 0, 0, 0, 0)
def tX5_held (pc : Nat) : zI := if pc < 5 then tmX5_held pc else (99, 0, 0, 0, 0)
theorem tkX5_held : z_tab RX5 wsX5_held 1 (some .int) cX5_held 5 tX5_held := z_tab_of (tm := tmX5_held) (by decide +kernel)
theorem sX5_held_0 (lv : zL) (st : List Value) (w : zW) (nx K : Nat → zL → List Value → zW → Prop) (Rt : Option Value → zW → Prop) : z_st1 (tX5_held 0) 0 lv st w nx K Rt = (z_la lv 0 (fun x => nx 1 lv (.ref x :: st) w)) := id rfl
theorem sX5_held_1 (lv : zL) (st : List Value) (w : zW) (nx K : Nat → zL → List Value → zW → Prop) (Rt : Option Value → zW → Prop) : z_st1 (tX5_held 1) 1 lv st w nx K Rt = (z_1a st (fun x r => z_ob w x 6 (fun fs => z_fl fs 4 (fun u => nx 4 lv (u :: r) w)))) := id rfl
theorem sX5_held_4 (lv : zL) (st : List Value) (w : zW) (nx K : Nat → zL → List Value → zW → Prop) (Rt : Option Value → zW → Prop) : z_st1 (tX5_held 4) 4 lv st w nx K Rt = (z_e1 st (fun x => Rt (some (.int x)) w)) := id rfl

def tmX5_clear (pc : Nat) : zI := match pc with
  | 0 => (1, 0, 0, 1, 0)
  | 1 => (6, 0, 0, 2, 0)
  | 2 => (47, 6, 4, 5, 0)
  | 5 => (55, 0, 0, 6, 0)
  | _ => (99, 0, 0, 0, 0)
def tX5_clear (pc : Nat) : zI := if pc < 6 then tmX5_clear pc else (99, 0, 0, 0, 0)
theorem tkX5_clear : z_tab RX5 wsX5_clear 1 none cX5_clear 6 tX5_clear := z_tab_of (tm := tmX5_clear) (by decide +kernel)
theorem sX5_clear_0 (lv : zL) (st : List Value) (w : zW) (nx K : Nat → zL → List Value → zW → Prop) (Rt : Option Value → zW → Prop) : z_st1 (tX5_clear 0) 0 lv st w nx K Rt = (z_la lv 0 (fun x => nx 1 lv (.ref x :: st) w)) := id rfl
theorem sX5_clear_1 (lv : zL) (st : List Value) (w : zW) (nx K : Nat → zL → List Value → zW → Prop) (Rt : Option Value → zW → Prop) : z_st1 (tX5_clear 1) 1 lv st w nx K Rt = (nx 2 lv (.int (0 : Int32) :: st) w) := id rfl
theorem sX5_clear_2 (lv : zL) (st : List Value) (w : zW) (nx K : Nat → zL → List Value → zW → Prop) (Rt : Option Value → zW → Prop) : z_st1 (tX5_clear 2) 2 lv st w nx K Rt = (z_ia st (fun x i r => z_ob w x 6 (fun fs => 4 < fs.length ∧ nx 5 lv r (z_up w x (.inr (6, fs.set 4 (.int i))))))) := id rfl
theorem sX5_clear_5 (lv : zL) (st : List Value) (w : zW) (nx K : Nat → zL → List Value → zW → Prop) (Rt : Option Value → zW → Prop) : z_st1 (tX5_clear 5) 5 lv st w nx K Rt = (z_e0 st (Rt none w)) := id rfl

def tmX5_add (pc : Nat) : zI := match pc with
  | 0 => (1, 0, 0, 1, 0)
  | 1 => (46, 6, 4, 4, 0)
  | 4 => (1, 0, 0, 5, 0)
  | 5 => (46, 6, 0, 8, 0)
  | 8 => (42, 13, 0, 11, 0)
  | 11 => (6, 0, 0, 12, (-1))
  | 12 => (53, 0, 0, 13, 0)
  | 13 => (1, 0, 0, 14, 0)
  | 14 => (46, 6, 4, 17, 0)
  | 17 => (3, 2, 0, 18, 0)
  | 18 => (1, 0, 0, 19, 0)
  | 19 => (29, 0, 0, 20, 0)
  | 20 => (46, 6, 4, 23, 0)
  | 23 => (6, 0, 0, 24, 1)
  | 24 => (8, 0, 0, 25, 0)
  | 25 => (47, 6, 4, 28, 0)
  | 28 => (1, 0, 0, 29, 0)
  | 29 => (46, 6, 1, 32, 0)
  | 32 => (0, 2, 0, 33, 0)
  | 33 => (0, 1, 0, 34, 0)
  | 34 => (49, 0, 0, 35, 0)
  | 35 => (1, 0, 0, 36, 0)
  | 36 => (46, 6, 2, 39, 0)
  | 39 => (0, 2, 0, 40, 0)
  | 40 => (6, 0, 0, 41, 0)
  | 41 => (49, 0, 0, 42, 0)
  | 42 => (0, 2, 0, 43, 0)
  | 43 => (53, 0, 0, 44, 0)
  | _ => (99, 0, 0, 0, 0)
def tX5_add (pc : Nat) : zI := if pc < 44 then tmX5_add pc else (99, 0, 0, 0, 0)
theorem tkX5_add : z_tab RX5 wsX5_add 3 (some .int) cX5_add 44 tX5_add := z_tab_of (tm := tmX5_add) (by decide +kernel)
theorem sX5_add_0 (lv : zL) (st : List Value) (w : zW) (nx K : Nat → zL → List Value → zW → Prop) (Rt : Option Value → zW → Prop) : z_st1 (tX5_add 0) 0 lv st w nx K Rt = (z_la lv 0 (fun x => nx 1 lv (.ref x :: st) w)) := id rfl
theorem sX5_add_1 (lv : zL) (st : List Value) (w : zW) (nx K : Nat → zL → List Value → zW → Prop) (Rt : Option Value → zW → Prop) : z_st1 (tX5_add 1) 1 lv st w nx K Rt = (z_1a st (fun x r => z_ob w x 6 (fun fs => z_fl fs 4 (fun u => nx 4 lv (u :: r) w)))) := id rfl
theorem sX5_add_4 (lv : zL) (st : List Value) (w : zW) (nx K : Nat → zL → List Value → zW → Prop) (Rt : Option Value → zW → Prop) : z_st1 (tX5_add 4) 4 lv st w nx K Rt = (z_la lv 0 (fun x => nx 5 lv (.ref x :: st) w)) := id rfl
theorem sX5_add_5 (lv : zL) (st : List Value) (w : zW) (nx K : Nat → zL → List Value → zW → Prop) (Rt : Option Value → zW → Prop) : z_st1 (tX5_add 5) 5 lv st w nx K Rt = (z_1a st (fun x r => z_ob w x 6 (fun fs => z_fl fs 0 (fun u => nx 8 lv (u :: r) w)))) := id rfl
theorem sX5_add_8 (lv : zL) (st : List Value) (w : zW) (nx K : Nat → zL → List Value → zW → Prop) (Rt : Option Value → zW → Prop) : z_st1 (tX5_add 8) 8 lv st w nx K Rt = (z_2i st (fun x y r => (x < y → nx 13 lv r w) ∧ (¬ x < y → nx 11 lv r w))) := id rfl
theorem sX5_add_11 (lv : zL) (st : List Value) (w : zW) (nx K : Nat → zL → List Value → zW → Prop) (Rt : Option Value → zW → Prop) : z_st1 (tX5_add 11) 11 lv st w nx K Rt = (nx 12 lv (.int (-1 : Int32) :: st) w) := id rfl
theorem sX5_add_12 (lv : zL) (st : List Value) (w : zW) (nx K : Nat → zL → List Value → zW → Prop) (Rt : Option Value → zW → Prop) : z_st1 (tX5_add 12) 12 lv st w nx K Rt = (z_e1 st (fun x => Rt (some (.int x)) w)) := id rfl
theorem sX5_add_13 (lv : zL) (st : List Value) (w : zW) (nx K : Nat → zL → List Value → zW → Prop) (Rt : Option Value → zW → Prop) : z_st1 (tX5_add 13) 13 lv st w nx K Rt = (z_la lv 0 (fun x => nx 14 lv (.ref x :: st) w)) := id rfl
theorem sX5_add_14 (lv : zL) (st : List Value) (w : zW) (nx K : Nat → zL → List Value → zW → Prop) (Rt : Option Value → zW → Prop) : z_st1 (tX5_add 14) 14 lv st w nx K Rt = (z_1a st (fun x r => z_ob w x 6 (fun fs => z_fl fs 4 (fun u => nx 17 lv (u :: r) w)))) := id rfl
theorem sX5_add_17 (lv : zL) (st : List Value) (w : zW) (nx K : Nat → zL → List Value → zW → Prop) (Rt : Option Value → zW → Prop) : z_st1 (tX5_add 17) 17 lv st w nx K Rt = (z_1i st (fun x r => z_ok1 lv 2 = true ∧ nx 18 (lv.set 2 (some (.int x))) r w)) := id rfl
theorem sX5_add_18 (lv : zL) (st : List Value) (w : zW) (nx K : Nat → zL → List Value → zW → Prop) (Rt : Option Value → zW → Prop) : z_st1 (tX5_add 18) 18 lv st w nx K Rt = (z_la lv 0 (fun x => nx 19 lv (.ref x :: st) w)) := id rfl
theorem sX5_add_19 (lv : zL) (st : List Value) (w : zW) (nx K : Nat → zL → List Value → zW → Prop) (Rt : Option Value → zW → Prop) : z_st1 (tX5_add 19) 19 lv st w nx K Rt = (z_d1 st (fun x r => nx 20 lv (x :: x :: r) w)) := id rfl
theorem sX5_add_20 (lv : zL) (st : List Value) (w : zW) (nx K : Nat → zL → List Value → zW → Prop) (Rt : Option Value → zW → Prop) : z_st1 (tX5_add 20) 20 lv st w nx K Rt = (z_1a st (fun x r => z_ob w x 6 (fun fs => z_fl fs 4 (fun u => nx 23 lv (u :: r) w)))) := id rfl
theorem sX5_add_23 (lv : zL) (st : List Value) (w : zW) (nx K : Nat → zL → List Value → zW → Prop) (Rt : Option Value → zW → Prop) : z_st1 (tX5_add 23) 23 lv st w nx K Rt = (nx 24 lv (.int (1 : Int32) :: st) w) := id rfl
theorem sX5_add_24 (lv : zL) (st : List Value) (w : zW) (nx K : Nat → zL → List Value → zW → Prop) (Rt : Option Value → zW → Prop) : z_st1 (tX5_add 24) 24 lv st w nx K Rt = (z_2i st (fun x y r => nx 25 lv (.int (x + y) :: r) w)) := id rfl
theorem sX5_add_25 (lv : zL) (st : List Value) (w : zW) (nx K : Nat → zL → List Value → zW → Prop) (Rt : Option Value → zW → Prop) : z_st1 (tX5_add 25) 25 lv st w nx K Rt = (z_ia st (fun x i r => z_ob w x 6 (fun fs => 4 < fs.length ∧ nx 28 lv r (z_up w x (.inr (6, fs.set 4 (.int i))))))) := id rfl
theorem sX5_add_28 (lv : zL) (st : List Value) (w : zW) (nx K : Nat → zL → List Value → zW → Prop) (Rt : Option Value → zW → Prop) : z_st1 (tX5_add 28) 28 lv st w nx K Rt = (z_la lv 0 (fun x => nx 29 lv (.ref x :: st) w)) := id rfl
theorem sX5_add_29 (lv : zL) (st : List Value) (w : zW) (nx K : Nat → zL → List Value → zW → Prop) (Rt : Option Value → zW → Prop) : z_st1 (tX5_add 29) 29 lv st w nx K Rt = (z_1a st (fun x r => z_ob w x 6 (fun fs => z_fl fs 1 (fun u => nx 32 lv (u :: r) w)))) := id rfl
theorem sX5_add_32 (lv : zL) (st : List Value) (w : zW) (nx K : Nat → zL → List Value → zW → Prop) (Rt : Option Value → zW → Prop) : z_st1 (tX5_add 32) 32 lv st w nx K Rt = (z_li lv 2 (fun x => nx 33 lv (.int x :: st) w)) := id rfl
theorem sX5_add_33 (lv : zL) (st : List Value) (w : zW) (nx K : Nat → zL → List Value → zW → Prop) (Rt : Option Value → zW → Prop) : z_st1 (tX5_add 33) 33 lv st w nx K Rt = (z_li lv 1 (fun x => nx 34 lv (.int x :: st) w)) := id rfl
theorem sX5_add_34 (lv : zL) (st : List Value) (w : zW) (nx K : Nat → zL → List Value → zW → Prop) (Rt : Option Value → zW → Prop) : z_st1 (tX5_add 34) 34 lv st w nx K Rt = (z_iia st (fun x i u r => z_ar0 w x (fun m g => vp_in i m ∧ nx 35 lv r (z_up w x (.inl (0, m, .inl (upd g i.toNatClampNeg u))))))) := id rfl
theorem sX5_add_35 (lv : zL) (st : List Value) (w : zW) (nx K : Nat → zL → List Value → zW → Prop) (Rt : Option Value → zW → Prop) : z_st1 (tX5_add 35) 35 lv st w nx K Rt = (z_la lv 0 (fun x => nx 36 lv (.ref x :: st) w)) := id rfl
theorem sX5_add_36 (lv : zL) (st : List Value) (w : zW) (nx K : Nat → zL → List Value → zW → Prop) (Rt : Option Value → zW → Prop) : z_st1 (tX5_add 36) 36 lv st w nx K Rt = (z_1a st (fun x r => z_ob w x 6 (fun fs => z_fl fs 2 (fun u => nx 39 lv (u :: r) w)))) := id rfl
theorem sX5_add_39 (lv : zL) (st : List Value) (w : zW) (nx K : Nat → zL → List Value → zW → Prop) (Rt : Option Value → zW → Prop) : z_st1 (tX5_add 39) 39 lv st w nx K Rt = (z_li lv 2 (fun x => nx 40 lv (.int x :: st) w)) := id rfl
theorem sX5_add_40 (lv : zL) (st : List Value) (w : zW) (nx K : Nat → zL → List Value → zW → Prop) (Rt : Option Value → zW → Prop) : z_st1 (tX5_add 40) 40 lv st w nx K Rt = (nx 41 lv (.int (0 : Int32) :: st) w) := id rfl
theorem sX5_add_41 (lv : zL) (st : List Value) (w : zW) (nx K : Nat → zL → List Value → zW → Prop) (Rt : Option Value → zW → Prop) : z_st1 (tX5_add 41) 41 lv st w nx K Rt = (z_iia st (fun x i u r => z_ar0 w x (fun m g => vp_in i m ∧ nx 42 lv r (z_up w x (.inl (0, m, .inl (upd g i.toNatClampNeg u))))))) := id rfl
theorem sX5_add_42 (lv : zL) (st : List Value) (w : zW) (nx K : Nat → zL → List Value → zW → Prop) (Rt : Option Value → zW → Prop) : z_st1 (tX5_add 42) 42 lv st w nx K Rt = (z_li lv 2 (fun x => nx 43 lv (.int x :: st) w)) := id rfl
theorem sX5_add_43 (lv : zL) (st : List Value) (w : zW) (nx K : Nat → zL → List Value → zW → Prop) (Rt : Option Value → zW → Prop) : z_st1 (tX5_add 43) 43 lv st w nx K Rt = (z_e1 st (fun x => Rt (some (.int x)) w)) := id rfl

def tmX5_numberOf (pc : Nat) : zI := match pc with
  | 0 => (0, 1, 0, 1, 0)
  | 1 => (36, 12, 0, 4, 0)
  | 4 => (0, 1, 0, 5, 0)
  | 5 => (1, 0, 0, 6, 0)
  | 6 => (46, 6, 4, 9, 0)
  | 9 => (42, 16, 0, 12, 0)
  | 12 => (6, 0, 0, 13, 0)
  | 13 => (33, 22, 0, 16, 0)
  | 16 => (1, 0, 0, 17, 0)
  | 17 => (46, 6, 1, 20, 0)
  | 20 => (0, 1, 0, 21, 0)
  | 21 => (48, 0, 0, 22, 0)
  | 22 => (53, 0, 0, 23, 0)
  | _ => (99, 0, 0, 0, 0)
def tX5_numberOf (pc : Nat) : zI := if pc < 23 then tmX5_numberOf pc else (99, 0, 0, 0, 0)
theorem tkX5_numberOf : z_tab RX5 wsX5_numberOf 2 (some .int) cX5_numberOf 23 tX5_numberOf := z_tab_of (tm := tmX5_numberOf) (by decide +kernel)
theorem sX5_numberOf_0 (lv : zL) (st : List Value) (w : zW) (nx K : Nat → zL → List Value → zW → Prop) (Rt : Option Value → zW → Prop) : z_st1 (tX5_numberOf 0) 0 lv st w nx K Rt = (z_li lv 1 (fun x => nx 1 lv (.int x :: st) w)) := id rfl
theorem sX5_numberOf_1 (lv : zL) (st : List Value) (w : zW) (nx K : Nat → zL → List Value → zW → Prop) (Rt : Option Value → zW → Prop) : z_st1 (tX5_numberOf 1) 1 lv st w nx K Rt = (z_1i st (fun x r => (x < 0 → nx 12 lv r w) ∧ (¬ x < 0 → nx 4 lv r w))) := id rfl
theorem sX5_numberOf_4 (lv : zL) (st : List Value) (w : zW) (nx K : Nat → zL → List Value → zW → Prop) (Rt : Option Value → zW → Prop) : z_st1 (tX5_numberOf 4) 4 lv st w nx K Rt = (z_li lv 1 (fun x => nx 5 lv (.int x :: st) w)) := id rfl
theorem sX5_numberOf_5 (lv : zL) (st : List Value) (w : zW) (nx K : Nat → zL → List Value → zW → Prop) (Rt : Option Value → zW → Prop) : z_st1 (tX5_numberOf 5) 5 lv st w nx K Rt = (z_la lv 0 (fun x => nx 6 lv (.ref x :: st) w)) := id rfl
theorem sX5_numberOf_6 (lv : zL) (st : List Value) (w : zW) (nx K : Nat → zL → List Value → zW → Prop) (Rt : Option Value → zW → Prop) : z_st1 (tX5_numberOf 6) 6 lv st w nx K Rt = (z_1a st (fun x r => z_ob w x 6 (fun fs => z_fl fs 4 (fun u => nx 9 lv (u :: r) w)))) := id rfl
theorem sX5_numberOf_9 (lv : zL) (st : List Value) (w : zW) (nx K : Nat → zL → List Value → zW → Prop) (Rt : Option Value → zW → Prop) : z_st1 (tX5_numberOf 9) 9 lv st w nx K Rt = (z_2i st (fun x y r => (x < y → nx 16 lv r w) ∧ (¬ x < y → nx 12 lv r w))) := id rfl
theorem sX5_numberOf_12 (lv : zL) (st : List Value) (w : zW) (nx K : Nat → zL → List Value → zW → Prop) (Rt : Option Value → zW → Prop) : z_st1 (tX5_numberOf 12) 12 lv st w nx K Rt = (nx 13 lv (.int (0 : Int32) :: st) w) := id rfl
theorem sX5_numberOf_13 (lv : zL) (st : List Value) (w : zW) (nx K : Nat → zL → List Value → zW → Prop) (Rt : Option Value → zW → Prop) : z_st1 (tX5_numberOf 13) 13 lv st w nx K Rt = (nx 22 lv st w) := id rfl
theorem sX5_numberOf_16 (lv : zL) (st : List Value) (w : zW) (nx K : Nat → zL → List Value → zW → Prop) (Rt : Option Value → zW → Prop) : z_st1 (tX5_numberOf 16) 16 lv st w nx K Rt = (z_la lv 0 (fun x => nx 17 lv (.ref x :: st) w)) := id rfl
theorem sX5_numberOf_17 (lv : zL) (st : List Value) (w : zW) (nx K : Nat → zL → List Value → zW → Prop) (Rt : Option Value → zW → Prop) : z_st1 (tX5_numberOf 17) 17 lv st w nx K Rt = (z_1a st (fun x r => z_ob w x 6 (fun fs => z_fl fs 1 (fun u => nx 20 lv (u :: r) w)))) := id rfl
theorem sX5_numberOf_20 (lv : zL) (st : List Value) (w : zW) (nx K : Nat → zL → List Value → zW → Prop) (Rt : Option Value → zW → Prop) : z_st1 (tX5_numberOf 20) 20 lv st w nx K Rt = (z_li lv 1 (fun x => nx 21 lv (.int x :: st) w)) := id rfl
theorem sX5_numberOf_21 (lv : zL) (st : List Value) (w : zW) (nx K : Nat → zL → List Value → zW → Prop) (Rt : Option Value → zW → Prop) : z_st1 (tX5_numberOf 21) 21 lv st w nx K Rt = (z_ia st (fun x i r => z_ar0 w x (fun m g => vp_in i m ∧ nx 22 lv (.int (g i.toNatClampNeg) :: r) w))) := id rfl
theorem sX5_numberOf_22 (lv : zL) (st : List Value) (w : zW) (nx K : Nat → zL → List Value → zW → Prop) (Rt : Option Value → zW → Prop) : z_st1 (tX5_numberOf 22) 22 lv st w nx K Rt = (z_e1 st (fun x => Rt (some (.int x)) w)) := id rfl

def tmX6_init (pc : Nat) : zI := match pc with
  | 0 => (1, 0, 0, 1, 0)
  | 4 => (1, 0, 0, 5, 0)
  | 5 => (6, 0, 0, 6, 4)
  | 11 => (1, 0, 0, 12, 0)
  | 12 => (6, 0, 0, 13, 4)
  | 18 => (1, 0, 0, 19, 0)
  | 19 => (6, 0, 0, 21, 32)
  | 26 => (55, 0, 0, 27, 0)
  | _ => (99, 0, 0, 0, 0)
def tX6_init (pc : Nat) : zI := if pc < 27 then tmX6_init pc else (99, 0, 0, 0, 0)
theorem tkX6_init : z_tab RX6 wsX6_init 1 none cX6_init 27 tX6_init := z_tab_of (tm := tmX6_init) (by decide +kernel)
theorem sX6_init_0 (lv : zL) (st : List Value) (w : zW) (nx K : Nat → zL → List Value → zW → Prop) (Rt : Option Value → zW → Prop) : z_st1 (tX6_init 0) 0 lv st w nx K Rt = (z_la lv 0 (fun x => nx 1 lv (.ref x :: st) w)) := id rfl
theorem sX6_init_4 (lv : zL) (st : List Value) (w : zW) (nx K : Nat → zL → List Value → zW → Prop) (Rt : Option Value → zW → Prop) : z_st1 (tX6_init 4) 4 lv st w nx K Rt = (z_la lv 0 (fun x => nx 5 lv (.ref x :: st) w)) := id rfl
theorem sX6_init_5 (lv : zL) (st : List Value) (w : zW) (nx K : Nat → zL → List Value → zW → Prop) (Rt : Option Value → zW → Prop) : z_st1 (tX6_init 5) 5 lv st w nx K Rt = (nx 6 lv (.int (4 : Int32) :: st) w) := id rfl
theorem sX6_init_11 (lv : zL) (st : List Value) (w : zW) (nx K : Nat → zL → List Value → zW → Prop) (Rt : Option Value → zW → Prop) : z_st1 (tX6_init 11) 11 lv st w nx K Rt = (z_la lv 0 (fun x => nx 12 lv (.ref x :: st) w)) := id rfl
theorem sX6_init_12 (lv : zL) (st : List Value) (w : zW) (nx K : Nat → zL → List Value → zW → Prop) (Rt : Option Value → zW → Prop) : z_st1 (tX6_init 12) 12 lv st w nx K Rt = (nx 13 lv (.int (4 : Int32) :: st) w) := id rfl
theorem sX6_init_18 (lv : zL) (st : List Value) (w : zW) (nx K : Nat → zL → List Value → zW → Prop) (Rt : Option Value → zW → Prop) : z_st1 (tX6_init 18) 18 lv st w nx K Rt = (z_la lv 0 (fun x => nx 19 lv (.ref x :: st) w)) := id rfl
theorem sX6_init_19 (lv : zL) (st : List Value) (w : zW) (nx K : Nat → zL → List Value → zW → Prop) (Rt : Option Value → zW → Prop) : z_st1 (tX6_init 19) 19 lv st w nx K Rt = (nx 21 lv (.int (32 : Int32) :: st) w) := id rfl
theorem sX6_init_26 (lv : zL) (st : List Value) (w : zW) (nx K : Nat → zL → List Value → zW → Prop) (Rt : Option Value → zW → Prop) : z_st1 (tX6_init 26) 26 lv st w nx K Rt = (z_e0 st (Rt none w)) := id rfl
theorem sX6_init_1 (lv : zL) (st : List Value) (w : zW) (nx K : Nat → zL → List Value → zW → Prop) (Rt : Option Value → zW → Prop) : z_st1 (tX6_init 1) 1 lv st w nx K Rt = K 1 lv st w := id rfl
theorem sX6_init_6 (lv : zL) (st : List Value) (w : zW) (nx K : Nat → zL → List Value → zW → Prop) (Rt : Option Value → zW → Prop) : z_st1 (tX6_init 6) 6 lv st w nx K Rt = K 6 lv st w := id rfl
theorem sX6_init_8 (lv : zL) (st : List Value) (w : zW) (nx K : Nat → zL → List Value → zW → Prop) (Rt : Option Value → zW → Prop) : z_st1 (tX6_init 8) 8 lv st w nx K Rt = K 8 lv st w := id rfl
theorem sX6_init_13 (lv : zL) (st : List Value) (w : zW) (nx K : Nat → zL → List Value → zW → Prop) (Rt : Option Value → zW → Prop) : z_st1 (tX6_init 13) 13 lv st w nx K Rt = K 13 lv st w := id rfl
theorem sX6_init_15 (lv : zL) (st : List Value) (w : zW) (nx K : Nat → zL → List Value → zW → Prop) (Rt : Option Value → zW → Prop) : z_st1 (tX6_init 15) 15 lv st w nx K Rt = K 15 lv st w := id rfl
theorem sX6_init_21 (lv : zL) (st : List Value) (w : zW) (nx K : Nat → zL → List Value → zW → Prop) (Rt : Option Value → zW → Prop) : z_st1 (tX6_init 21) 21 lv st w nx K Rt = K 21 lv st w := id rfl
theorem sX6_init_23 (lv : zL) (st : List Value) (w : zW) (nx K : Nat → zL → List Value → zW → Prop) (Rt : Option Value → zW → Prop) : z_st1 (tX6_init 23) 23 lv st w nx K Rt = K 23 lv st w := id rfl
theorem dX6_init_1 : decode cX6_init 1 = .ok (.invokespecial 3, 3) := by decide +kernel
theorem dX6_init_6 : decode cX6_init 6 = .ok (.newarray .int, 2) := by decide +kernel
theorem dX6_init_8 : decode cX6_init 8 = .ok (.putfield 9, 3) := by decide +kernel
theorem dX6_init_13 : decode cX6_init 13 = .ok (.newarray .int, 2) := by decide +kernel
theorem dX6_init_15 : decode cX6_init 15 = .ok (.putfield 15, 3) := by decide +kernel
theorem dX6_init_21 : decode cX6_init 21 = .ok (.newarray .int, 2) := by decide +kernel
theorem dX6_init_23 : decode cX6_init 23 = .ok (.putfield 18, 3) := by decide +kernel

def tmX6_tell (pc : Nat) : zI := match pc with
  | 0 => (1, 0, 0, 1, 0)
  | 1 => (46, 7, 3, 4, 0)
  | 4 => (6, 0, 0, 5, 4)
  | 5 => (42, 10, 0, 8, 0)
  | 8 => (6, 0, 0, 9, (-1))
  | 9 => (53, 0, 0, 10, 0)
  | 10 => (1, 0, 0, 11, 0)
  | 11 => (46, 7, 0, 14, 0)
  | 14 => (1, 0, 0, 15, 0)
  | 15 => (46, 7, 3, 18, 0)
  | 18 => (0, 1, 0, 19, 0)
  | 19 => (49, 0, 0, 20, 0)
  | 20 => (1, 0, 0, 21, 0)
  | 21 => (46, 7, 1, 24, 0)
  | 24 => (1, 0, 0, 25, 0)
  | 25 => (46, 7, 3, 28, 0)
  | 28 => (0, 2, 0, 29, 0)
  | 29 => (49, 0, 0, 30, 0)
  | 30 => (1, 0, 0, 31, 0)
  | 31 => (29, 0, 0, 32, 0)
  | 32 => (46, 7, 3, 35, 0)
  | 35 => (6, 0, 0, 36, 1)
  | 36 => (8, 0, 0, 37, 0)
  | 37 => (47, 7, 3, 40, 0)
  | 40 => (1, 0, 0, 41, 0)
  | 41 => (46, 7, 3, 44, 0)
  | 44 => (53, 0, 0, 45, 0)
  | _ => (99, 0, 0, 0, 0)
def tX6_tell (pc : Nat) : zI := if pc < 45 then tmX6_tell pc else (99, 0, 0, 0, 0)
theorem tkX6_tell : z_tab RX6 wsX6_tell 3 (some .int) cX6_tell 45 tX6_tell := z_tab_of (tm := tmX6_tell) (by decide +kernel)
theorem sX6_tell_0 (lv : zL) (st : List Value) (w : zW) (nx K : Nat → zL → List Value → zW → Prop) (Rt : Option Value → zW → Prop) : z_st1 (tX6_tell 0) 0 lv st w nx K Rt = (z_la lv 0 (fun x => nx 1 lv (.ref x :: st) w)) := id rfl
theorem sX6_tell_1 (lv : zL) (st : List Value) (w : zW) (nx K : Nat → zL → List Value → zW → Prop) (Rt : Option Value → zW → Prop) : z_st1 (tX6_tell 1) 1 lv st w nx K Rt = (z_1a st (fun x r => z_ob w x 7 (fun fs => z_fl fs 3 (fun u => nx 4 lv (u :: r) w)))) := id rfl
theorem sX6_tell_4 (lv : zL) (st : List Value) (w : zW) (nx K : Nat → zL → List Value → zW → Prop) (Rt : Option Value → zW → Prop) : z_st1 (tX6_tell 4) 4 lv st w nx K Rt = (nx 5 lv (.int (4 : Int32) :: st) w) := id rfl
theorem sX6_tell_5 (lv : zL) (st : List Value) (w : zW) (nx K : Nat → zL → List Value → zW → Prop) (Rt : Option Value → zW → Prop) : z_st1 (tX6_tell 5) 5 lv st w nx K Rt = (z_2i st (fun x y r => (x < y → nx 10 lv r w) ∧ (¬ x < y → nx 8 lv r w))) := id rfl
theorem sX6_tell_8 (lv : zL) (st : List Value) (w : zW) (nx K : Nat → zL → List Value → zW → Prop) (Rt : Option Value → zW → Prop) : z_st1 (tX6_tell 8) 8 lv st w nx K Rt = (nx 9 lv (.int (-1 : Int32) :: st) w) := id rfl
theorem sX6_tell_9 (lv : zL) (st : List Value) (w : zW) (nx K : Nat → zL → List Value → zW → Prop) (Rt : Option Value → zW → Prop) : z_st1 (tX6_tell 9) 9 lv st w nx K Rt = (z_e1 st (fun x => Rt (some (.int x)) w)) := id rfl
theorem sX6_tell_10 (lv : zL) (st : List Value) (w : zW) (nx K : Nat → zL → List Value → zW → Prop) (Rt : Option Value → zW → Prop) : z_st1 (tX6_tell 10) 10 lv st w nx K Rt = (z_la lv 0 (fun x => nx 11 lv (.ref x :: st) w)) := id rfl
theorem sX6_tell_11 (lv : zL) (st : List Value) (w : zW) (nx K : Nat → zL → List Value → zW → Prop) (Rt : Option Value → zW → Prop) : z_st1 (tX6_tell 11) 11 lv st w nx K Rt = (z_1a st (fun x r => z_ob w x 7 (fun fs => z_fl fs 0 (fun u => nx 14 lv (u :: r) w)))) := id rfl
theorem sX6_tell_14 (lv : zL) (st : List Value) (w : zW) (nx K : Nat → zL → List Value → zW → Prop) (Rt : Option Value → zW → Prop) : z_st1 (tX6_tell 14) 14 lv st w nx K Rt = (z_la lv 0 (fun x => nx 15 lv (.ref x :: st) w)) := id rfl
theorem sX6_tell_15 (lv : zL) (st : List Value) (w : zW) (nx K : Nat → zL → List Value → zW → Prop) (Rt : Option Value → zW → Prop) : z_st1 (tX6_tell 15) 15 lv st w nx K Rt = (z_1a st (fun x r => z_ob w x 7 (fun fs => z_fl fs 3 (fun u => nx 18 lv (u :: r) w)))) := id rfl
theorem sX6_tell_18 (lv : zL) (st : List Value) (w : zW) (nx K : Nat → zL → List Value → zW → Prop) (Rt : Option Value → zW → Prop) : z_st1 (tX6_tell 18) 18 lv st w nx K Rt = (z_li lv 1 (fun x => nx 19 lv (.int x :: st) w)) := id rfl
theorem sX6_tell_19 (lv : zL) (st : List Value) (w : zW) (nx K : Nat → zL → List Value → zW → Prop) (Rt : Option Value → zW → Prop) : z_st1 (tX6_tell 19) 19 lv st w nx K Rt = (z_iia st (fun x i u r => z_ar0 w x (fun m g => vp_in i m ∧ nx 20 lv r (z_up w x (.inl (0, m, .inl (upd g i.toNatClampNeg u))))))) := id rfl
theorem sX6_tell_20 (lv : zL) (st : List Value) (w : zW) (nx K : Nat → zL → List Value → zW → Prop) (Rt : Option Value → zW → Prop) : z_st1 (tX6_tell 20) 20 lv st w nx K Rt = (z_la lv 0 (fun x => nx 21 lv (.ref x :: st) w)) := id rfl
theorem sX6_tell_21 (lv : zL) (st : List Value) (w : zW) (nx K : Nat → zL → List Value → zW → Prop) (Rt : Option Value → zW → Prop) : z_st1 (tX6_tell 21) 21 lv st w nx K Rt = (z_1a st (fun x r => z_ob w x 7 (fun fs => z_fl fs 1 (fun u => nx 24 lv (u :: r) w)))) := id rfl
theorem sX6_tell_24 (lv : zL) (st : List Value) (w : zW) (nx K : Nat → zL → List Value → zW → Prop) (Rt : Option Value → zW → Prop) : z_st1 (tX6_tell 24) 24 lv st w nx K Rt = (z_la lv 0 (fun x => nx 25 lv (.ref x :: st) w)) := id rfl
theorem sX6_tell_25 (lv : zL) (st : List Value) (w : zW) (nx K : Nat → zL → List Value → zW → Prop) (Rt : Option Value → zW → Prop) : z_st1 (tX6_tell 25) 25 lv st w nx K Rt = (z_1a st (fun x r => z_ob w x 7 (fun fs => z_fl fs 3 (fun u => nx 28 lv (u :: r) w)))) := id rfl
theorem sX6_tell_28 (lv : zL) (st : List Value) (w : zW) (nx K : Nat → zL → List Value → zW → Prop) (Rt : Option Value → zW → Prop) : z_st1 (tX6_tell 28) 28 lv st w nx K Rt = (z_li lv 2 (fun x => nx 29 lv (.int x :: st) w)) := id rfl
theorem sX6_tell_29 (lv : zL) (st : List Value) (w : zW) (nx K : Nat → zL → List Value → zW → Prop) (Rt : Option Value → zW → Prop) : z_st1 (tX6_tell 29) 29 lv st w nx K Rt = (z_iia st (fun x i u r => z_ar0 w x (fun m g => vp_in i m ∧ nx 30 lv r (z_up w x (.inl (0, m, .inl (upd g i.toNatClampNeg u))))))) := id rfl
theorem sX6_tell_30 (lv : zL) (st : List Value) (w : zW) (nx K : Nat → zL → List Value → zW → Prop) (Rt : Option Value → zW → Prop) : z_st1 (tX6_tell 30) 30 lv st w nx K Rt = (z_la lv 0 (fun x => nx 31 lv (.ref x :: st) w)) := id rfl
theorem sX6_tell_31 (lv : zL) (st : List Value) (w : zW) (nx K : Nat → zL → List Value → zW → Prop) (Rt : Option Value → zW → Prop) : z_st1 (tX6_tell 31) 31 lv st w nx K Rt = (z_d1 st (fun x r => nx 32 lv (x :: x :: r) w)) := id rfl
theorem sX6_tell_32 (lv : zL) (st : List Value) (w : zW) (nx K : Nat → zL → List Value → zW → Prop) (Rt : Option Value → zW → Prop) : z_st1 (tX6_tell 32) 32 lv st w nx K Rt = (z_1a st (fun x r => z_ob w x 7 (fun fs => z_fl fs 3 (fun u => nx 35 lv (u :: r) w)))) := id rfl
theorem sX6_tell_35 (lv : zL) (st : List Value) (w : zW) (nx K : Nat → zL → List Value → zW → Prop) (Rt : Option Value → zW → Prop) : z_st1 (tX6_tell 35) 35 lv st w nx K Rt = (nx 36 lv (.int (1 : Int32) :: st) w) := id rfl
theorem sX6_tell_36 (lv : zL) (st : List Value) (w : zW) (nx K : Nat → zL → List Value → zW → Prop) (Rt : Option Value → zW → Prop) : z_st1 (tX6_tell 36) 36 lv st w nx K Rt = (z_2i st (fun x y r => nx 37 lv (.int (x + y) :: r) w)) := id rfl
theorem sX6_tell_37 (lv : zL) (st : List Value) (w : zW) (nx K : Nat → zL → List Value → zW → Prop) (Rt : Option Value → zW → Prop) : z_st1 (tX6_tell 37) 37 lv st w nx K Rt = (z_ia st (fun x i r => z_ob w x 7 (fun fs => 3 < fs.length ∧ nx 40 lv r (z_up w x (.inr (7, fs.set 3 (.int i))))))) := id rfl
theorem sX6_tell_40 (lv : zL) (st : List Value) (w : zW) (nx K : Nat → zL → List Value → zW → Prop) (Rt : Option Value → zW → Prop) : z_st1 (tX6_tell 40) 40 lv st w nx K Rt = (z_la lv 0 (fun x => nx 41 lv (.ref x :: st) w)) := id rfl
theorem sX6_tell_41 (lv : zL) (st : List Value) (w : zW) (nx K : Nat → zL → List Value → zW → Prop) (Rt : Option Value → zW → Prop) : z_st1 (tX6_tell 41) 41 lv st w nx K Rt = (z_1a st (fun x r => z_ob w x 7 (fun fs => z_fl fs 3 (fun u => nx 44 lv (u :: r) w)))) := id rfl
theorem sX6_tell_44 (lv : zL) (st : List Value) (w : zW) (nx K : Nat → zL → List Value → zW → Prop) (Rt : Option Value → zW → Prop) : z_st1 (tX6_tell 44) 44 lv st w nx K Rt = (z_e1 st (fun x => Rt (some (.int x)) w)) := id rfl

def tmX7_init (pc : Nat) : zI := match pc with
  | 0 => (1, 0, 0, 1, 0)
  | 4 => (55, 0, 0, 5, 0)
  | _ => (99, 0, 0, 0, 0)
def tX7_init (pc : Nat) : zI := if pc < 5 then tmX7_init pc else (99, 0, 0, 0, 0)
theorem tkX7_init : z_tab RX7 wsX7_init 1 none cX7_init 5 tX7_init := z_tab_of (tm := tmX7_init) (by decide +kernel)
theorem sX7_init_0 (lv : zL) (st : List Value) (w : zW) (nx K : Nat → zL → List Value → zW → Prop) (Rt : Option Value → zW → Prop) : z_st1 (tX7_init 0) 0 lv st w nx K Rt = (z_la lv 0 (fun x => nx 1 lv (.ref x :: st) w)) := id rfl
theorem sX7_init_4 (lv : zL) (st : List Value) (w : zW) (nx K : Nat → zL → List Value → zW → Prop) (Rt : Option Value → zW → Prop) : z_st1 (tX7_init 4) 4 lv st w nx K Rt = (z_e0 st (Rt none w)) := id rfl
theorem sX7_init_1 (lv : zL) (st : List Value) (w : zW) (nx K : Nat → zL → List Value → zW → Prop) (Rt : Option Value → zW → Prop) : z_st1 (tX7_init 1) 1 lv st w nx K Rt = K 1 lv st w := id rfl
theorem dX7_init_1 : decode cX7_init 1 = .ok (.invokespecial 1, 3) := by decide +kernel

def tmX8_init (pc : Nat) : zI := match pc with
  | 0 => (1, 0, 0, 1, 0)
  | 7 => (29, 0, 0, 8, 0)
  | 8 => (6, 0, 0, 11, 1600)
  | 14 => (4, 1, 0, 15, 0)
  | 18 => (29, 0, 0, 19, 0)
  | 22 => (4, 2, 0, 23, 0)
  | 23 => (1, 0, 0, 24, 0)
  | 27 => (29, 0, 0, 28, 0)
  | 28 => (6, 0, 0, 31, 400)
  | 37 => (1, 0, 0, 38, 0)
  | 38 => (1, 1, 0, 39, 0)
  | 42 => (1, 0, 0, 43, 0)
  | 43 => (1, 2, 0, 44, 0)
  | 47 => (1, 0, 0, 48, 0)
  | 51 => (29, 0, 0, 52, 0)
  | 52 => (1, 1, 0, 53, 0)
  | 53 => (1, 2, 0, 54, 0)
  | 60 => (1, 0, 0, 61, 0)
  | 64 => (29, 0, 0, 65, 0)
  | 71 => (1, 0, 0, 72, 0)
  | 75 => (29, 0, 0, 76, 0)
  | 82 => (1, 0, 0, 83, 0)
  | 86 => (29, 0, 0, 87, 0)
  | 93 => (1, 0, 0, 94, 0)
  | 97 => (29, 0, 0, 98, 0)
  | 104 => (1, 0, 0, 105, 0)
  | 108 => (29, 0, 0, 109, 0)
  | 115 => (1, 0, 0, 116, 0)
  | 116 => (6, 0, 0, 119, 1000)
  | 124 => (1, 0, 0, 125, 0)
  | 125 => (6, 0, 0, 127, 8)
  | 127 => (47, 9, 11, 130, 0)
  | 130 => (1, 0, 0, 131, 0)
  | 131 => (6, 0, 0, 132, 2)
  | 132 => (47, 9, 12, 135, 0)
  | 135 => (1, 0, 0, 136, 0)
  | 136 => (6, 0, 0, 137, 0)
  | 137 => (47, 9, 13, 140, 0)
  | 140 => (1, 0, 0, 141, 0)
  | 141 => (6, 0, 0, 142, (-1))
  | 142 => (47, 9, 15, 145, 0)
  | 145 => (1, 0, 0, 146, 0)
  | 149 => (29, 0, 0, 150, 0)
  | 153 => (61, 9, 17, 156, 0)
  | 156 => (1, 0, 0, 157, 0)
  | 160 => (29, 0, 0, 161, 0)
  | 164 => (61, 9, 18, 167, 0)
  | 167 => (55, 0, 0, 168, 0)
  | _ => (99, 0, 0, 0, 0)
def tX8_init (pc : Nat) : zI := if pc < 168 then tmX8_init pc else (99, 0, 0, 0, 0)
theorem tkX8_init : z_tab RX8 wsX8_init 3 none cX8_init 168 tX8_init := z_tab_of (tm := tmX8_init) (by decide +kernel)
theorem sX8_init_0 (lv : zL) (st : List Value) (w : zW) (nx K : Nat → zL → List Value → zW → Prop) (Rt : Option Value → zW → Prop) : z_st1 (tX8_init 0) 0 lv st w nx K Rt = (z_la lv 0 (fun x => nx 1 lv (.ref x :: st) w)) := id rfl
theorem sX8_init_7 (lv : zL) (st : List Value) (w : zW) (nx K : Nat → zL → List Value → zW → Prop) (Rt : Option Value → zW → Prop) : z_st1 (tX8_init 7) 7 lv st w nx K Rt = (z_d1 st (fun x r => nx 8 lv (x :: x :: r) w)) := id rfl
theorem sX8_init_8 (lv : zL) (st : List Value) (w : zW) (nx K : Nat → zL → List Value → zW → Prop) (Rt : Option Value → zW → Prop) : z_st1 (tX8_init 8) 8 lv st w nx K Rt = (nx 11 lv (.int (1600 : Int32) :: st) w) := id rfl
theorem sX8_init_14 (lv : zL) (st : List Value) (w : zW) (nx K : Nat → zL → List Value → zW → Prop) (Rt : Option Value → zW → Prop) : z_st1 (tX8_init 14) 14 lv st w nx K Rt = (z_1a st (fun x r => z_ok1 lv 1 = true ∧ nx 15 (lv.set 1 (some (.ref x))) r w)) := id rfl
theorem sX8_init_18 (lv : zL) (st : List Value) (w : zW) (nx K : Nat → zL → List Value → zW → Prop) (Rt : Option Value → zW → Prop) : z_st1 (tX8_init 18) 18 lv st w nx K Rt = (z_d1 st (fun x r => nx 19 lv (x :: x :: r) w)) := id rfl
theorem sX8_init_22 (lv : zL) (st : List Value) (w : zW) (nx K : Nat → zL → List Value → zW → Prop) (Rt : Option Value → zW → Prop) : z_st1 (tX8_init 22) 22 lv st w nx K Rt = (z_1a st (fun x r => z_ok1 lv 2 = true ∧ nx 23 (lv.set 2 (some (.ref x))) r w)) := id rfl
theorem sX8_init_23 (lv : zL) (st : List Value) (w : zW) (nx K : Nat → zL → List Value → zW → Prop) (Rt : Option Value → zW → Prop) : z_st1 (tX8_init 23) 23 lv st w nx K Rt = (z_la lv 0 (fun x => nx 24 lv (.ref x :: st) w)) := id rfl
theorem sX8_init_27 (lv : zL) (st : List Value) (w : zW) (nx K : Nat → zL → List Value → zW → Prop) (Rt : Option Value → zW → Prop) : z_st1 (tX8_init 27) 27 lv st w nx K Rt = (z_d1 st (fun x r => nx 28 lv (x :: x :: r) w)) := id rfl
theorem sX8_init_28 (lv : zL) (st : List Value) (w : zW) (nx K : Nat → zL → List Value → zW → Prop) (Rt : Option Value → zW → Prop) : z_st1 (tX8_init 28) 28 lv st w nx K Rt = (nx 31 lv (.int (400 : Int32) :: st) w) := id rfl
theorem sX8_init_37 (lv : zL) (st : List Value) (w : zW) (nx K : Nat → zL → List Value → zW → Prop) (Rt : Option Value → zW → Prop) : z_st1 (tX8_init 37) 37 lv st w nx K Rt = (z_la lv 0 (fun x => nx 38 lv (.ref x :: st) w)) := id rfl
theorem sX8_init_38 (lv : zL) (st : List Value) (w : zW) (nx K : Nat → zL → List Value → zW → Prop) (Rt : Option Value → zW → Prop) : z_st1 (tX8_init 38) 38 lv st w nx K Rt = (z_la lv 1 (fun x => nx 39 lv (.ref x :: st) w)) := id rfl
theorem sX8_init_42 (lv : zL) (st : List Value) (w : zW) (nx K : Nat → zL → List Value → zW → Prop) (Rt : Option Value → zW → Prop) : z_st1 (tX8_init 42) 42 lv st w nx K Rt = (z_la lv 0 (fun x => nx 43 lv (.ref x :: st) w)) := id rfl
theorem sX8_init_43 (lv : zL) (st : List Value) (w : zW) (nx K : Nat → zL → List Value → zW → Prop) (Rt : Option Value → zW → Prop) : z_st1 (tX8_init 43) 43 lv st w nx K Rt = (z_la lv 2 (fun x => nx 44 lv (.ref x :: st) w)) := id rfl
theorem sX8_init_47 (lv : zL) (st : List Value) (w : zW) (nx K : Nat → zL → List Value → zW → Prop) (Rt : Option Value → zW → Prop) : z_st1 (tX8_init 47) 47 lv st w nx K Rt = (z_la lv 0 (fun x => nx 48 lv (.ref x :: st) w)) := id rfl
theorem sX8_init_51 (lv : zL) (st : List Value) (w : zW) (nx K : Nat → zL → List Value → zW → Prop) (Rt : Option Value → zW → Prop) : z_st1 (tX8_init 51) 51 lv st w nx K Rt = (z_d1 st (fun x r => nx 52 lv (x :: x :: r) w)) := id rfl
theorem sX8_init_52 (lv : zL) (st : List Value) (w : zW) (nx K : Nat → zL → List Value → zW → Prop) (Rt : Option Value → zW → Prop) : z_st1 (tX8_init 52) 52 lv st w nx K Rt = (z_la lv 1 (fun x => nx 53 lv (.ref x :: st) w)) := id rfl
theorem sX8_init_53 (lv : zL) (st : List Value) (w : zW) (nx K : Nat → zL → List Value → zW → Prop) (Rt : Option Value → zW → Prop) : z_st1 (tX8_init 53) 53 lv st w nx K Rt = (z_la lv 2 (fun x => nx 54 lv (.ref x :: st) w)) := id rfl
theorem sX8_init_60 (lv : zL) (st : List Value) (w : zW) (nx K : Nat → zL → List Value → zW → Prop) (Rt : Option Value → zW → Prop) : z_st1 (tX8_init 60) 60 lv st w nx K Rt = (z_la lv 0 (fun x => nx 61 lv (.ref x :: st) w)) := id rfl
theorem sX8_init_64 (lv : zL) (st : List Value) (w : zW) (nx K : Nat → zL → List Value → zW → Prop) (Rt : Option Value → zW → Prop) : z_st1 (tX8_init 64) 64 lv st w nx K Rt = (z_d1 st (fun x r => nx 65 lv (x :: x :: r) w)) := id rfl
theorem sX8_init_71 (lv : zL) (st : List Value) (w : zW) (nx K : Nat → zL → List Value → zW → Prop) (Rt : Option Value → zW → Prop) : z_st1 (tX8_init 71) 71 lv st w nx K Rt = (z_la lv 0 (fun x => nx 72 lv (.ref x :: st) w)) := id rfl
theorem sX8_init_75 (lv : zL) (st : List Value) (w : zW) (nx K : Nat → zL → List Value → zW → Prop) (Rt : Option Value → zW → Prop) : z_st1 (tX8_init 75) 75 lv st w nx K Rt = (z_d1 st (fun x r => nx 76 lv (x :: x :: r) w)) := id rfl
theorem sX8_init_82 (lv : zL) (st : List Value) (w : zW) (nx K : Nat → zL → List Value → zW → Prop) (Rt : Option Value → zW → Prop) : z_st1 (tX8_init 82) 82 lv st w nx K Rt = (z_la lv 0 (fun x => nx 83 lv (.ref x :: st) w)) := id rfl
theorem sX8_init_86 (lv : zL) (st : List Value) (w : zW) (nx K : Nat → zL → List Value → zW → Prop) (Rt : Option Value → zW → Prop) : z_st1 (tX8_init 86) 86 lv st w nx K Rt = (z_d1 st (fun x r => nx 87 lv (x :: x :: r) w)) := id rfl
theorem sX8_init_93 (lv : zL) (st : List Value) (w : zW) (nx K : Nat → zL → List Value → zW → Prop) (Rt : Option Value → zW → Prop) : z_st1 (tX8_init 93) 93 lv st w nx K Rt = (z_la lv 0 (fun x => nx 94 lv (.ref x :: st) w)) := id rfl
theorem sX8_init_97 (lv : zL) (st : List Value) (w : zW) (nx K : Nat → zL → List Value → zW → Prop) (Rt : Option Value → zW → Prop) : z_st1 (tX8_init 97) 97 lv st w nx K Rt = (z_d1 st (fun x r => nx 98 lv (x :: x :: r) w)) := id rfl
theorem sX8_init_104 (lv : zL) (st : List Value) (w : zW) (nx K : Nat → zL → List Value → zW → Prop) (Rt : Option Value → zW → Prop) : z_st1 (tX8_init 104) 104 lv st w nx K Rt = (z_la lv 0 (fun x => nx 105 lv (.ref x :: st) w)) := id rfl
theorem sX8_init_108 (lv : zL) (st : List Value) (w : zW) (nx K : Nat → zL → List Value → zW → Prop) (Rt : Option Value → zW → Prop) : z_st1 (tX8_init 108) 108 lv st w nx K Rt = (z_d1 st (fun x r => nx 109 lv (x :: x :: r) w)) := id rfl
theorem sX8_init_115 (lv : zL) (st : List Value) (w : zW) (nx K : Nat → zL → List Value → zW → Prop) (Rt : Option Value → zW → Prop) : z_st1 (tX8_init 115) 115 lv st w nx K Rt = (z_la lv 0 (fun x => nx 116 lv (.ref x :: st) w)) := id rfl
theorem sX8_init_116 (lv : zL) (st : List Value) (w : zW) (nx K : Nat → zL → List Value → zW → Prop) (Rt : Option Value → zW → Prop) : z_st1 (tX8_init 116) 116 lv st w nx K Rt = (nx 119 lv (.int (1000 : Int32) :: st) w) := id rfl
theorem sX8_init_124 (lv : zL) (st : List Value) (w : zW) (nx K : Nat → zL → List Value → zW → Prop) (Rt : Option Value → zW → Prop) : z_st1 (tX8_init 124) 124 lv st w nx K Rt = (z_la lv 0 (fun x => nx 125 lv (.ref x :: st) w)) := id rfl
theorem sX8_init_125 (lv : zL) (st : List Value) (w : zW) (nx K : Nat → zL → List Value → zW → Prop) (Rt : Option Value → zW → Prop) : z_st1 (tX8_init 125) 125 lv st w nx K Rt = (nx 127 lv (.int (8 : Int32) :: st) w) := id rfl
theorem sX8_init_127 (lv : zL) (st : List Value) (w : zW) (nx K : Nat → zL → List Value → zW → Prop) (Rt : Option Value → zW → Prop) : z_st1 (tX8_init 127) 127 lv st w nx K Rt = (z_ia st (fun x i r => z_ob w x 9 (fun fs => 11 < fs.length ∧ nx 130 lv r (z_up w x (.inr (9, fs.set 11 (.int i))))))) := id rfl
theorem sX8_init_130 (lv : zL) (st : List Value) (w : zW) (nx K : Nat → zL → List Value → zW → Prop) (Rt : Option Value → zW → Prop) : z_st1 (tX8_init 130) 130 lv st w nx K Rt = (z_la lv 0 (fun x => nx 131 lv (.ref x :: st) w)) := id rfl
theorem sX8_init_131 (lv : zL) (st : List Value) (w : zW) (nx K : Nat → zL → List Value → zW → Prop) (Rt : Option Value → zW → Prop) : z_st1 (tX8_init 131) 131 lv st w nx K Rt = (nx 132 lv (.int (2 : Int32) :: st) w) := id rfl
theorem sX8_init_132 (lv : zL) (st : List Value) (w : zW) (nx K : Nat → zL → List Value → zW → Prop) (Rt : Option Value → zW → Prop) : z_st1 (tX8_init 132) 132 lv st w nx K Rt = (z_ia st (fun x i r => z_ob w x 9 (fun fs => 12 < fs.length ∧ nx 135 lv r (z_up w x (.inr (9, fs.set 12 (.int i))))))) := id rfl
theorem sX8_init_135 (lv : zL) (st : List Value) (w : zW) (nx K : Nat → zL → List Value → zW → Prop) (Rt : Option Value → zW → Prop) : z_st1 (tX8_init 135) 135 lv st w nx K Rt = (z_la lv 0 (fun x => nx 136 lv (.ref x :: st) w)) := id rfl
theorem sX8_init_136 (lv : zL) (st : List Value) (w : zW) (nx K : Nat → zL → List Value → zW → Prop) (Rt : Option Value → zW → Prop) : z_st1 (tX8_init 136) 136 lv st w nx K Rt = (nx 137 lv (.int (0 : Int32) :: st) w) := id rfl
theorem sX8_init_137 (lv : zL) (st : List Value) (w : zW) (nx K : Nat → zL → List Value → zW → Prop) (Rt : Option Value → zW → Prop) : z_st1 (tX8_init 137) 137 lv st w nx K Rt = (z_ia st (fun x i r => z_ob w x 9 (fun fs => 13 < fs.length ∧ nx 140 lv r (z_up w x (.inr (9, fs.set 13 (.int i))))))) := id rfl
theorem sX8_init_140 (lv : zL) (st : List Value) (w : zW) (nx K : Nat → zL → List Value → zW → Prop) (Rt : Option Value → zW → Prop) : z_st1 (tX8_init 140) 140 lv st w nx K Rt = (z_la lv 0 (fun x => nx 141 lv (.ref x :: st) w)) := id rfl
theorem sX8_init_141 (lv : zL) (st : List Value) (w : zW) (nx K : Nat → zL → List Value → zW → Prop) (Rt : Option Value → zW → Prop) : z_st1 (tX8_init 141) 141 lv st w nx K Rt = (nx 142 lv (.int (-1 : Int32) :: st) w) := id rfl
theorem sX8_init_142 (lv : zL) (st : List Value) (w : zW) (nx K : Nat → zL → List Value → zW → Prop) (Rt : Option Value → zW → Prop) : z_st1 (tX8_init 142) 142 lv st w nx K Rt = (z_ia st (fun x i r => z_ob w x 9 (fun fs => 15 < fs.length ∧ nx 145 lv r (z_up w x (.inr (9, fs.set 15 (.int i))))))) := id rfl
theorem sX8_init_145 (lv : zL) (st : List Value) (w : zW) (nx K : Nat → zL → List Value → zW → Prop) (Rt : Option Value → zW → Prop) : z_st1 (tX8_init 145) 145 lv st w nx K Rt = (z_la lv 0 (fun x => nx 146 lv (.ref x :: st) w)) := id rfl
theorem sX8_init_149 (lv : zL) (st : List Value) (w : zW) (nx K : Nat → zL → List Value → zW → Prop) (Rt : Option Value → zW → Prop) : z_st1 (tX8_init 149) 149 lv st w nx K Rt = (z_d1 st (fun x r => nx 150 lv (x :: x :: r) w)) := id rfl
theorem sX8_init_153 (lv : zL) (st : List Value) (w : zW) (nx K : Nat → zL → List Value → zW → Prop) (Rt : Option Value → zW → Prop) : z_st1 (tX8_init 153) 153 lv st w nx K Rt = (z_aa st (fun x y r => z_ob w x 9 (fun fs => 17 < fs.length ∧ nx 156 lv r (z_up w x (.inr (9, fs.set 17 (.ref y))))))) := id rfl
theorem sX8_init_156 (lv : zL) (st : List Value) (w : zW) (nx K : Nat → zL → List Value → zW → Prop) (Rt : Option Value → zW → Prop) : z_st1 (tX8_init 156) 156 lv st w nx K Rt = (z_la lv 0 (fun x => nx 157 lv (.ref x :: st) w)) := id rfl
theorem sX8_init_160 (lv : zL) (st : List Value) (w : zW) (nx K : Nat → zL → List Value → zW → Prop) (Rt : Option Value → zW → Prop) : z_st1 (tX8_init 160) 160 lv st w nx K Rt = (z_d1 st (fun x r => nx 161 lv (x :: x :: r) w)) := id rfl
theorem sX8_init_164 (lv : zL) (st : List Value) (w : zW) (nx K : Nat → zL → List Value → zW → Prop) (Rt : Option Value → zW → Prop) : z_st1 (tX8_init 164) 164 lv st w nx K Rt = (z_aa st (fun x y r => z_ob w x 9 (fun fs => 18 < fs.length ∧ nx 167 lv r (z_up w x (.inr (9, fs.set 18 (.ref y))))))) := id rfl
theorem sX8_init_167 (lv : zL) (st : List Value) (w : zW) (nx K : Nat → zL → List Value → zW → Prop) (Rt : Option Value → zW → Prop) : z_st1 (tX8_init 167) 167 lv st w nx K Rt = (z_e0 st (Rt none w)) := id rfl
theorem sX8_init_1 (lv : zL) (st : List Value) (w : zW) (nx K : Nat → zL → List Value → zW → Prop) (Rt : Option Value → zW → Prop) : z_st1 (tX8_init 1) 1 lv st w nx K Rt = K 1 lv st w := id rfl
theorem sX8_init_4 (lv : zL) (st : List Value) (w : zW) (nx K : Nat → zL → List Value → zW → Prop) (Rt : Option Value → zW → Prop) : z_st1 (tX8_init 4) 4 lv st w nx K Rt = K 4 lv st w := id rfl
theorem sX8_init_11 (lv : zL) (st : List Value) (w : zW) (nx K : Nat → zL → List Value → zW → Prop) (Rt : Option Value → zW → Prop) : z_st1 (tX8_init 11) 11 lv st w nx K Rt = K 11 lv st w := id rfl
theorem sX8_init_15 (lv : zL) (st : List Value) (w : zW) (nx K : Nat → zL → List Value → zW → Prop) (Rt : Option Value → zW → Prop) : z_st1 (tX8_init 15) 15 lv st w nx K Rt = K 15 lv st w := id rfl
theorem sX8_init_19 (lv : zL) (st : List Value) (w : zW) (nx K : Nat → zL → List Value → zW → Prop) (Rt : Option Value → zW → Prop) : z_st1 (tX8_init 19) 19 lv st w nx K Rt = K 19 lv st w := id rfl
theorem sX8_init_24 (lv : zL) (st : List Value) (w : zW) (nx K : Nat → zL → List Value → zW → Prop) (Rt : Option Value → zW → Prop) : z_st1 (tX8_init 24) 24 lv st w nx K Rt = K 24 lv st w := id rfl
theorem sX8_init_31 (lv : zL) (st : List Value) (w : zW) (nx K : Nat → zL → List Value → zW → Prop) (Rt : Option Value → zW → Prop) : z_st1 (tX8_init 31) 31 lv st w nx K Rt = K 31 lv st w := id rfl
theorem sX8_init_34 (lv : zL) (st : List Value) (w : zW) (nx K : Nat → zL → List Value → zW → Prop) (Rt : Option Value → zW → Prop) : z_st1 (tX8_init 34) 34 lv st w nx K Rt = K 34 lv st w := id rfl
theorem sX8_init_39 (lv : zL) (st : List Value) (w : zW) (nx K : Nat → zL → List Value → zW → Prop) (Rt : Option Value → zW → Prop) : z_st1 (tX8_init 39) 39 lv st w nx K Rt = K 39 lv st w := id rfl
theorem sX8_init_44 (lv : zL) (st : List Value) (w : zW) (nx K : Nat → zL → List Value → zW → Prop) (Rt : Option Value → zW → Prop) : z_st1 (tX8_init 44) 44 lv st w nx K Rt = K 44 lv st w := id rfl
theorem sX8_init_48 (lv : zL) (st : List Value) (w : zW) (nx K : Nat → zL → List Value → zW → Prop) (Rt : Option Value → zW → Prop) : z_st1 (tX8_init 48) 48 lv st w nx K Rt = K 48 lv st w := id rfl
theorem sX8_init_54 (lv : zL) (st : List Value) (w : zW) (nx K : Nat → zL → List Value → zW → Prop) (Rt : Option Value → zW → Prop) : z_st1 (tX8_init 54) 54 lv st w nx K Rt = K 54 lv st w := id rfl
theorem sX8_init_57 (lv : zL) (st : List Value) (w : zW) (nx K : Nat → zL → List Value → zW → Prop) (Rt : Option Value → zW → Prop) : z_st1 (tX8_init 57) 57 lv st w nx K Rt = K 57 lv st w := id rfl
theorem sX8_init_61 (lv : zL) (st : List Value) (w : zW) (nx K : Nat → zL → List Value → zW → Prop) (Rt : Option Value → zW → Prop) : z_st1 (tX8_init 61) 61 lv st w nx K Rt = K 61 lv st w := id rfl
theorem sX8_init_65 (lv : zL) (st : List Value) (w : zW) (nx K : Nat → zL → List Value → zW → Prop) (Rt : Option Value → zW → Prop) : z_st1 (tX8_init 65) 65 lv st w nx K Rt = K 65 lv st w := id rfl
theorem sX8_init_68 (lv : zL) (st : List Value) (w : zW) (nx K : Nat → zL → List Value → zW → Prop) (Rt : Option Value → zW → Prop) : z_st1 (tX8_init 68) 68 lv st w nx K Rt = K 68 lv st w := id rfl
theorem sX8_init_72 (lv : zL) (st : List Value) (w : zW) (nx K : Nat → zL → List Value → zW → Prop) (Rt : Option Value → zW → Prop) : z_st1 (tX8_init 72) 72 lv st w nx K Rt = K 72 lv st w := id rfl
theorem sX8_init_76 (lv : zL) (st : List Value) (w : zW) (nx K : Nat → zL → List Value → zW → Prop) (Rt : Option Value → zW → Prop) : z_st1 (tX8_init 76) 76 lv st w nx K Rt = K 76 lv st w := id rfl
theorem sX8_init_79 (lv : zL) (st : List Value) (w : zW) (nx K : Nat → zL → List Value → zW → Prop) (Rt : Option Value → zW → Prop) : z_st1 (tX8_init 79) 79 lv st w nx K Rt = K 79 lv st w := id rfl
theorem sX8_init_83 (lv : zL) (st : List Value) (w : zW) (nx K : Nat → zL → List Value → zW → Prop) (Rt : Option Value → zW → Prop) : z_st1 (tX8_init 83) 83 lv st w nx K Rt = K 83 lv st w := id rfl
theorem sX8_init_87 (lv : zL) (st : List Value) (w : zW) (nx K : Nat → zL → List Value → zW → Prop) (Rt : Option Value → zW → Prop) : z_st1 (tX8_init 87) 87 lv st w nx K Rt = K 87 lv st w := id rfl
theorem sX8_init_90 (lv : zL) (st : List Value) (w : zW) (nx K : Nat → zL → List Value → zW → Prop) (Rt : Option Value → zW → Prop) : z_st1 (tX8_init 90) 90 lv st w nx K Rt = K 90 lv st w := id rfl
theorem sX8_init_94 (lv : zL) (st : List Value) (w : zW) (nx K : Nat → zL → List Value → zW → Prop) (Rt : Option Value → zW → Prop) : z_st1 (tX8_init 94) 94 lv st w nx K Rt = K 94 lv st w := id rfl
theorem sX8_init_98 (lv : zL) (st : List Value) (w : zW) (nx K : Nat → zL → List Value → zW → Prop) (Rt : Option Value → zW → Prop) : z_st1 (tX8_init 98) 98 lv st w nx K Rt = K 98 lv st w := id rfl
theorem sX8_init_101 (lv : zL) (st : List Value) (w : zW) (nx K : Nat → zL → List Value → zW → Prop) (Rt : Option Value → zW → Prop) : z_st1 (tX8_init 101) 101 lv st w nx K Rt = K 101 lv st w := id rfl
theorem sX8_init_105 (lv : zL) (st : List Value) (w : zW) (nx K : Nat → zL → List Value → zW → Prop) (Rt : Option Value → zW → Prop) : z_st1 (tX8_init 105) 105 lv st w nx K Rt = K 105 lv st w := id rfl
theorem sX8_init_109 (lv : zL) (st : List Value) (w : zW) (nx K : Nat → zL → List Value → zW → Prop) (Rt : Option Value → zW → Prop) : z_st1 (tX8_init 109) 109 lv st w nx K Rt = K 109 lv st w := id rfl
theorem sX8_init_112 (lv : zL) (st : List Value) (w : zW) (nx K : Nat → zL → List Value → zW → Prop) (Rt : Option Value → zW → Prop) : z_st1 (tX8_init 112) 112 lv st w nx K Rt = K 112 lv st w := id rfl
theorem sX8_init_119 (lv : zL) (st : List Value) (w : zW) (nx K : Nat → zL → List Value → zW → Prop) (Rt : Option Value → zW → Prop) : z_st1 (tX8_init 119) 119 lv st w nx K Rt = K 119 lv st w := id rfl
theorem sX8_init_121 (lv : zL) (st : List Value) (w : zW) (nx K : Nat → zL → List Value → zW → Prop) (Rt : Option Value → zW → Prop) : z_st1 (tX8_init 121) 121 lv st w nx K Rt = K 121 lv st w := id rfl
theorem sX8_init_146 (lv : zL) (st : List Value) (w : zW) (nx K : Nat → zL → List Value → zW → Prop) (Rt : Option Value → zW → Prop) : z_st1 (tX8_init 146) 146 lv st w nx K Rt = K 146 lv st w := id rfl
theorem sX8_init_150 (lv : zL) (st : List Value) (w : zW) (nx K : Nat → zL → List Value → zW → Prop) (Rt : Option Value → zW → Prop) : z_st1 (tX8_init 150) 150 lv st w nx K Rt = K 150 lv st w := id rfl
theorem sX8_init_157 (lv : zL) (st : List Value) (w : zW) (nx K : Nat → zL → List Value → zW → Prop) (Rt : Option Value → zW → Prop) : z_st1 (tX8_init 157) 157 lv st w nx K Rt = K 157 lv st w := id rfl
theorem sX8_init_161 (lv : zL) (st : List Value) (w : zW) (nx K : Nat → zL → List Value → zW → Prop) (Rt : Option Value → zW → Prop) : z_st1 (tX8_init 161) 161 lv st w nx K Rt = K 161 lv st w := id rfl
theorem dX8_init_1 : decode cX8_init 1 = .ok (.invokespecial 3, 3) := by decide +kernel
theorem dX8_init_4 : decode cX8_init 4 = .ok (.new 9, 3) := by decide +kernel
theorem dX8_init_11 : decode cX8_init 11 = .ok (.invokespecial 11, 3) := by decide +kernel
theorem dX8_init_15 : decode cX8_init 15 = .ok (.new 14, 3) := by decide +kernel
theorem dX8_init_19 : decode cX8_init 19 = .ok (.invokespecial 16, 3) := by decide +kernel
theorem dX8_init_24 : decode cX8_init 24 = .ok (.new 9, 3) := by decide +kernel
theorem dX8_init_31 : decode cX8_init 31 = .ok (.invokespecial 11, 3) := by decide +kernel
theorem dX8_init_34 : decode cX8_init 34 = .ok (.putfield 17, 3) := by decide +kernel
theorem dX8_init_39 : decode cX8_init 39 = .ok (.putfield 21, 3) := by decide +kernel
theorem dX8_init_44 : decode cX8_init 44 = .ok (.putfield 24, 3) := by decide +kernel
theorem dX8_init_48 : decode cX8_init 48 = .ok (.new 28, 3) := by decide +kernel
theorem dX8_init_54 : decode cX8_init 54 = .ok (.invokespecial 30, 3) := by decide +kernel
theorem dX8_init_57 : decode cX8_init 57 = .ok (.putfield 33, 3) := by decide +kernel
theorem dX8_init_61 : decode cX8_init 61 = .ok (.new 37, 3) := by decide +kernel
theorem dX8_init_65 : decode cX8_init 65 = .ok (.invokespecial 39, 3) := by decide +kernel
theorem dX8_init_68 : decode cX8_init 68 = .ok (.putfield 40, 3) := by decide +kernel
theorem dX8_init_72 : decode cX8_init 72 = .ok (.new 44, 3) := by decide +kernel
theorem dX8_init_76 : decode cX8_init 76 = .ok (.invokespecial 46, 3) := by decide +kernel
theorem dX8_init_79 : decode cX8_init 79 = .ok (.putfield 47, 3) := by decide +kernel
theorem dX8_init_83 : decode cX8_init 83 = .ok (.new 51, 3) := by decide +kernel
theorem dX8_init_87 : decode cX8_init 87 = .ok (.invokespecial 53, 3) := by decide +kernel
theorem dX8_init_90 : decode cX8_init 90 = .ok (.putfield 54, 3) := by decide +kernel
theorem dX8_init_94 : decode cX8_init 94 = .ok (.new 51, 3) := by decide +kernel
theorem dX8_init_98 : decode cX8_init 98 = .ok (.invokespecial 53, 3) := by decide +kernel
theorem dX8_init_101 : decode cX8_init 101 = .ok (.putfield 58, 3) := by decide +kernel
theorem dX8_init_105 : decode cX8_init 105 = .ok (.new 61, 3) := by decide +kernel
theorem dX8_init_109 : decode cX8_init 109 = .ok (.invokespecial 63, 3) := by decide +kernel
theorem dX8_init_112 : decode cX8_init 112 = .ok (.putfield 64, 3) := by decide +kernel
theorem dX8_init_119 : decode cX8_init 119 = .ok (.newarray .int, 2) := by decide +kernel
theorem dX8_init_121 : decode cX8_init 121 = .ok (.putfield 68, 3) := by decide +kernel
theorem dX8_init_146 : decode cX8_init 146 = .ok (.new 85, 3) := by decide +kernel
theorem dX8_init_150 : decode cX8_init 150 = .ok (.invokespecial 87, 3) := by decide +kernel
theorem dX8_init_157 : decode cX8_init 157 = .ok (.new 85, 3) := by decide +kernel
theorem dX8_init_161 : decode cX8_init 161 = .ok (.invokespecial 87, 3) := by decide +kernel

def tmX8_area (pc : Nat) : zI := match pc with
  | 0 => (0, 1, 0, 1, 0)
  | 1 => (37, 14, 0, 4, 0)
  | 7 => (29, 0, 0, 8, 0)
  | 14 => (0, 1, 0, 15, 0)
  | 15 => (34, 25, 0, 18, 0)
  | 18 => (0, 1, 0, 19, 0)
  | 19 => (6, 0, 0, 22, 1000)
  | 22 => (45, 28, 0, 25, 0)
  | 25 => (6, 0, 0, 27, (-4))
  | 27 => (53, 0, 0, 28, 0)
  | 28 => (1, 0, 0, 29, 0)
  | 29 => (0, 1, 0, 30, 0)
  | 30 => (47, 9, 11, 33, 0)
  | 33 => (6, 0, 0, 34, 1)
  | 34 => (53, 0, 0, 35, 0)
  | _ => (99, 0, 0, 0, 0)
def tX8_area (pc : Nat) : zI := if pc < 35 then tmX8_area pc else (99, 0, 0, 0, 0)
theorem tkX8_area : z_tab RX8 wsX8_area 2 (some .int) cX8_area 35 tX8_area := z_tab_of (tm := tmX8_area) (by decide +kernel)
theorem sX8_area_0 (lv : zL) (st : List Value) (w : zW) (nx K : Nat → zL → List Value → zW → Prop) (Rt : Option Value → zW → Prop) : z_st1 (tX8_area 0) 0 lv st w nx K Rt = (z_li lv 1 (fun x => nx 1 lv (.int x :: st) w)) := id rfl
theorem sX8_area_1 (lv : zL) (st : List Value) (w : zW) (nx K : Nat → zL → List Value → zW → Prop) (Rt : Option Value → zW → Prop) : z_st1 (tX8_area 1) 1 lv st w nx K Rt = (z_1i st (fun x r => (0 ≤ x → nx 14 lv r w) ∧ (¬ 0 ≤ x → nx 4 lv r w))) := id rfl
theorem sX8_area_7 (lv : zL) (st : List Value) (w : zW) (nx K : Nat → zL → List Value → zW → Prop) (Rt : Option Value → zW → Prop) : z_st1 (tX8_area 7) 7 lv st w nx K Rt = (z_d1 st (fun x r => nx 8 lv (x :: x :: r) w)) := id rfl
theorem sX8_area_14 (lv : zL) (st : List Value) (w : zW) (nx K : Nat → zL → List Value → zW → Prop) (Rt : Option Value → zW → Prop) : z_st1 (tX8_area 14) 14 lv st w nx K Rt = (z_li lv 1 (fun x => nx 15 lv (.int x :: st) w)) := id rfl
theorem sX8_area_15 (lv : zL) (st : List Value) (w : zW) (nx K : Nat → zL → List Value → zW → Prop) (Rt : Option Value → zW → Prop) : z_st1 (tX8_area 15) 15 lv st w nx K Rt = (z_1i st (fun x r => (x = 0 → nx 25 lv r w) ∧ (¬ x = 0 → nx 18 lv r w))) := id rfl
theorem sX8_area_18 (lv : zL) (st : List Value) (w : zW) (nx K : Nat → zL → List Value → zW → Prop) (Rt : Option Value → zW → Prop) : z_st1 (tX8_area 18) 18 lv st w nx K Rt = (z_li lv 1 (fun x => nx 19 lv (.int x :: st) w)) := id rfl
theorem sX8_area_19 (lv : zL) (st : List Value) (w : zW) (nx K : Nat → zL → List Value → zW → Prop) (Rt : Option Value → zW → Prop) : z_st1 (tX8_area 19) 19 lv st w nx K Rt = (nx 22 lv (.int (1000 : Int32) :: st) w) := id rfl
theorem sX8_area_22 (lv : zL) (st : List Value) (w : zW) (nx K : Nat → zL → List Value → zW → Prop) (Rt : Option Value → zW → Prop) : z_st1 (tX8_area 22) 22 lv st w nx K Rt = (z_2i st (fun x y r => (x ≤ y → nx 28 lv r w) ∧ (¬ x ≤ y → nx 25 lv r w))) := id rfl
theorem sX8_area_25 (lv : zL) (st : List Value) (w : zW) (nx K : Nat → zL → List Value → zW → Prop) (Rt : Option Value → zW → Prop) : z_st1 (tX8_area 25) 25 lv st w nx K Rt = (nx 27 lv (.int (-4 : Int32) :: st) w) := id rfl
theorem sX8_area_27 (lv : zL) (st : List Value) (w : zW) (nx K : Nat → zL → List Value → zW → Prop) (Rt : Option Value → zW → Prop) : z_st1 (tX8_area 27) 27 lv st w nx K Rt = (z_e1 st (fun x => Rt (some (.int x)) w)) := id rfl
theorem sX8_area_28 (lv : zL) (st : List Value) (w : zW) (nx K : Nat → zL → List Value → zW → Prop) (Rt : Option Value → zW → Prop) : z_st1 (tX8_area 28) 28 lv st w nx K Rt = (z_la lv 0 (fun x => nx 29 lv (.ref x :: st) w)) := id rfl
theorem sX8_area_29 (lv : zL) (st : List Value) (w : zW) (nx K : Nat → zL → List Value → zW → Prop) (Rt : Option Value → zW → Prop) : z_st1 (tX8_area 29) 29 lv st w nx K Rt = (z_li lv 1 (fun x => nx 30 lv (.int x :: st) w)) := id rfl
theorem sX8_area_30 (lv : zL) (st : List Value) (w : zW) (nx K : Nat → zL → List Value → zW → Prop) (Rt : Option Value → zW → Prop) : z_st1 (tX8_area 30) 30 lv st w nx K Rt = (z_ia st (fun x i r => z_ob w x 9 (fun fs => 11 < fs.length ∧ nx 33 lv r (z_up w x (.inr (9, fs.set 11 (.int i))))))) := id rfl
theorem sX8_area_33 (lv : zL) (st : List Value) (w : zW) (nx K : Nat → zL → List Value → zW → Prop) (Rt : Option Value → zW → Prop) : z_st1 (tX8_area 33) 33 lv st w nx K Rt = (nx 34 lv (.int (1 : Int32) :: st) w) := id rfl
theorem sX8_area_34 (lv : zL) (st : List Value) (w : zW) (nx K : Nat → zL → List Value → zW → Prop) (Rt : Option Value → zW → Prop) : z_st1 (tX8_area 34) 34 lv st w nx K Rt = (z_e1 st (fun x => Rt (some (.int x)) w)) := id rfl
theorem sX8_area_4 (lv : zL) (st : List Value) (w : zW) (nx K : Nat → zL → List Value → zW → Prop) (Rt : Option Value → zW → Prop) : z_st1 (tX8_area 4) 4 lv st w nx K Rt = K 4 lv st w := id rfl
theorem sX8_area_8 (lv : zL) (st : List Value) (w : zW) (nx K : Nat → zL → List Value → zW → Prop) (Rt : Option Value → zW → Prop) : z_st1 (tX8_area 8) 8 lv st w nx K Rt = K 8 lv st w := id rfl
theorem sX8_area_10 (lv : zL) (st : List Value) (w : zW) (nx K : Nat → zL → List Value → zW → Prop) (Rt : Option Value → zW → Prop) : z_st1 (tX8_area 10) 10 lv st w nx K Rt = K 10 lv st w := id rfl
theorem sX8_area_13 (lv : zL) (st : List Value) (w : zW) (nx K : Nat → zL → List Value → zW → Prop) (Rt : Option Value → zW → Prop) : z_st1 (tX8_area 13) 13 lv st w nx K Rt = K 13 lv st w := id rfl
theorem dX8_area_4 : decode cX8_area 4 = .ok (.new 95, 3) := by decide +kernel
theorem dX8_area_8 : decode cX8_area 8 = .ok (.ldc 97, 2) := by decide +kernel
theorem dX8_area_10 : decode cX8_area 10 = .ok (.invokespecial 99, 3) := by decide +kernel
theorem dX8_area_13 : decode cX8_area 13 = .ok (.athrow, 1) := by decide +kernel

def tmX8_ways (pc : Nat) : zI := match pc with
  | 0 => (0, 1, 0, 1, 0)
  | 1 => (6, 0, 0, 2, 2)
  | 2 => (42, 11, 0, 5, 0)
  | 5 => (0, 1, 0, 6, 0)
  | 6 => (6, 0, 0, 8, 16)
  | 8 => (45, 14, 0, 11, 0)
  | 11 => (6, 0, 0, 13, (-4))
  | 13 => (53, 0, 0, 14, 0)
  | 14 => (1, 0, 0, 15, 0)
  | 15 => (46, 9, 12, 18, 0)
  | 18 => (3, 2, 0, 19, 0)
  | 19 => (1, 0, 0, 20, 0)
  | 20 => (0, 1, 0, 21, 0)
  | 21 => (47, 9, 12, 24, 0)
  | 24 => (0, 2, 0, 25, 0)
  | 25 => (53, 0, 0, 26, 0)
  | _ => (99, 0, 0, 0, 0)
def tX8_ways (pc : Nat) : zI := if pc < 26 then tmX8_ways pc else (99, 0, 0, 0, 0)
theorem tkX8_ways : z_tab RX8 wsX8_ways 3 (some .int) cX8_ways 26 tX8_ways := z_tab_of (tm := tmX8_ways) (by decide +kernel)
theorem sX8_ways_0 (lv : zL) (st : List Value) (w : zW) (nx K : Nat → zL → List Value → zW → Prop) (Rt : Option Value → zW → Prop) : z_st1 (tX8_ways 0) 0 lv st w nx K Rt = (z_li lv 1 (fun x => nx 1 lv (.int x :: st) w)) := id rfl
theorem sX8_ways_1 (lv : zL) (st : List Value) (w : zW) (nx K : Nat → zL → List Value → zW → Prop) (Rt : Option Value → zW → Prop) : z_st1 (tX8_ways 1) 1 lv st w nx K Rt = (nx 2 lv (.int (2 : Int32) :: st) w) := id rfl
theorem sX8_ways_2 (lv : zL) (st : List Value) (w : zW) (nx K : Nat → zL → List Value → zW → Prop) (Rt : Option Value → zW → Prop) : z_st1 (tX8_ways 2) 2 lv st w nx K Rt = (z_2i st (fun x y r => (x < y → nx 11 lv r w) ∧ (¬ x < y → nx 5 lv r w))) := id rfl
theorem sX8_ways_5 (lv : zL) (st : List Value) (w : zW) (nx K : Nat → zL → List Value → zW → Prop) (Rt : Option Value → zW → Prop) : z_st1 (tX8_ways 5) 5 lv st w nx K Rt = (z_li lv 1 (fun x => nx 6 lv (.int x :: st) w)) := id rfl
theorem sX8_ways_6 (lv : zL) (st : List Value) (w : zW) (nx K : Nat → zL → List Value → zW → Prop) (Rt : Option Value → zW → Prop) : z_st1 (tX8_ways 6) 6 lv st w nx K Rt = (nx 8 lv (.int (16 : Int32) :: st) w) := id rfl
theorem sX8_ways_8 (lv : zL) (st : List Value) (w : zW) (nx K : Nat → zL → List Value → zW → Prop) (Rt : Option Value → zW → Prop) : z_st1 (tX8_ways 8) 8 lv st w nx K Rt = (z_2i st (fun x y r => (x ≤ y → nx 14 lv r w) ∧ (¬ x ≤ y → nx 11 lv r w))) := id rfl
theorem sX8_ways_11 (lv : zL) (st : List Value) (w : zW) (nx K : Nat → zL → List Value → zW → Prop) (Rt : Option Value → zW → Prop) : z_st1 (tX8_ways 11) 11 lv st w nx K Rt = (nx 13 lv (.int (-4 : Int32) :: st) w) := id rfl
theorem sX8_ways_13 (lv : zL) (st : List Value) (w : zW) (nx K : Nat → zL → List Value → zW → Prop) (Rt : Option Value → zW → Prop) : z_st1 (tX8_ways 13) 13 lv st w nx K Rt = (z_e1 st (fun x => Rt (some (.int x)) w)) := id rfl
theorem sX8_ways_14 (lv : zL) (st : List Value) (w : zW) (nx K : Nat → zL → List Value → zW → Prop) (Rt : Option Value → zW → Prop) : z_st1 (tX8_ways 14) 14 lv st w nx K Rt = (z_la lv 0 (fun x => nx 15 lv (.ref x :: st) w)) := id rfl
theorem sX8_ways_15 (lv : zL) (st : List Value) (w : zW) (nx K : Nat → zL → List Value → zW → Prop) (Rt : Option Value → zW → Prop) : z_st1 (tX8_ways 15) 15 lv st w nx K Rt = (z_1a st (fun x r => z_ob w x 9 (fun fs => z_fl fs 12 (fun u => nx 18 lv (u :: r) w)))) := id rfl
theorem sX8_ways_18 (lv : zL) (st : List Value) (w : zW) (nx K : Nat → zL → List Value → zW → Prop) (Rt : Option Value → zW → Prop) : z_st1 (tX8_ways 18) 18 lv st w nx K Rt = (z_1i st (fun x r => z_ok1 lv 2 = true ∧ nx 19 (lv.set 2 (some (.int x))) r w)) := id rfl
theorem sX8_ways_19 (lv : zL) (st : List Value) (w : zW) (nx K : Nat → zL → List Value → zW → Prop) (Rt : Option Value → zW → Prop) : z_st1 (tX8_ways 19) 19 lv st w nx K Rt = (z_la lv 0 (fun x => nx 20 lv (.ref x :: st) w)) := id rfl
theorem sX8_ways_20 (lv : zL) (st : List Value) (w : zW) (nx K : Nat → zL → List Value → zW → Prop) (Rt : Option Value → zW → Prop) : z_st1 (tX8_ways 20) 20 lv st w nx K Rt = (z_li lv 1 (fun x => nx 21 lv (.int x :: st) w)) := id rfl
theorem sX8_ways_21 (lv : zL) (st : List Value) (w : zW) (nx K : Nat → zL → List Value → zW → Prop) (Rt : Option Value → zW → Prop) : z_st1 (tX8_ways 21) 21 lv st w nx K Rt = (z_ia st (fun x i r => z_ob w x 9 (fun fs => 12 < fs.length ∧ nx 24 lv r (z_up w x (.inr (9, fs.set 12 (.int i))))))) := id rfl
theorem sX8_ways_24 (lv : zL) (st : List Value) (w : zW) (nx K : Nat → zL → List Value → zW → Prop) (Rt : Option Value → zW → Prop) : z_st1 (tX8_ways 24) 24 lv st w nx K Rt = (z_li lv 2 (fun x => nx 25 lv (.int x :: st) w)) := id rfl
theorem sX8_ways_25 (lv : zL) (st : List Value) (w : zW) (nx K : Nat → zL → List Value → zW → Prop) (Rt : Option Value → zW → Prop) : z_st1 (tX8_ways 25) 25 lv st w nx K Rt = (z_e1 st (fun x => Rt (some (.int x)) w)) := id rfl

def tmX8_key (pc : Nat) : zI := match pc with
  | 0 => (0, 1, 0, 1, 0)
  | 1 => (0, 2, 0, 2, 0)
  | 2 => (0, 3, 0, 3, 0)
  | 6 => (35, 12, 0, 9, 0)
  | 9 => (6, 0, 0, 11, (-4))
  | 11 => (53, 0, 0, 12, 0)
  | 12 => (1, 0, 0, 13, 0)
  | 13 => (46, 9, 13, 16, 0)
  | 16 => (34, 22, 0, 19, 0)
  | 19 => (6, 0, 0, 21, (-5))
  | 21 => (53, 0, 0, 22, 0)
  | 22 => (1, 0, 0, 23, 0)
  | 23 => (46, 9, 2, 26, 0)
  | 26 => (0, 1, 0, 27, 0)
  | 27 => (0, 2, 0, 28, 0)
  | 28 => (0, 3, 0, 29, 0)
  | 29 => (0, 4, 0, 31, 0)
  | 34 => (53, 0, 0, 35, 0)
  | _ => (99, 0, 0, 0, 0)
def tX8_key (pc : Nat) : zI := if pc < 35 then tmX8_key pc else (99, 0, 0, 0, 0)
theorem tkX8_key : z_tab RX8 wsX8_key 5 (some .int) cX8_key 35 tX8_key := z_tab_of (tm := tmX8_key) (by decide +kernel)
theorem sX8_key_0 (lv : zL) (st : List Value) (w : zW) (nx K : Nat → zL → List Value → zW → Prop) (Rt : Option Value → zW → Prop) : z_st1 (tX8_key 0) 0 lv st w nx K Rt = (z_li lv 1 (fun x => nx 1 lv (.int x :: st) w)) := id rfl
theorem sX8_key_1 (lv : zL) (st : List Value) (w : zW) (nx K : Nat → zL → List Value → zW → Prop) (Rt : Option Value → zW → Prop) : z_st1 (tX8_key 1) 1 lv st w nx K Rt = (z_li lv 2 (fun x => nx 2 lv (.int x :: st) w)) := id rfl
theorem sX8_key_2 (lv : zL) (st : List Value) (w : zW) (nx K : Nat → zL → List Value → zW → Prop) (Rt : Option Value → zW → Prop) : z_st1 (tX8_key 2) 2 lv st w nx K Rt = (z_li lv 3 (fun x => nx 3 lv (.int x :: st) w)) := id rfl
theorem sX8_key_6 (lv : zL) (st : List Value) (w : zW) (nx K : Nat → zL → List Value → zW → Prop) (Rt : Option Value → zW → Prop) : z_st1 (tX8_key 6) 6 lv st w nx K Rt = (z_1i st (fun x r => (¬ x = 0 → nx 12 lv r w) ∧ (x = 0 → nx 9 lv r w))) := id rfl
theorem sX8_key_9 (lv : zL) (st : List Value) (w : zW) (nx K : Nat → zL → List Value → zW → Prop) (Rt : Option Value → zW → Prop) : z_st1 (tX8_key 9) 9 lv st w nx K Rt = (nx 11 lv (.int (-4 : Int32) :: st) w) := id rfl
theorem sX8_key_11 (lv : zL) (st : List Value) (w : zW) (nx K : Nat → zL → List Value → zW → Prop) (Rt : Option Value → zW → Prop) : z_st1 (tX8_key 11) 11 lv st w nx K Rt = (z_e1 st (fun x => Rt (some (.int x)) w)) := id rfl
theorem sX8_key_12 (lv : zL) (st : List Value) (w : zW) (nx K : Nat → zL → List Value → zW → Prop) (Rt : Option Value → zW → Prop) : z_st1 (tX8_key 12) 12 lv st w nx K Rt = (z_la lv 0 (fun x => nx 13 lv (.ref x :: st) w)) := id rfl
theorem sX8_key_13 (lv : zL) (st : List Value) (w : zW) (nx K : Nat → zL → List Value → zW → Prop) (Rt : Option Value → zW → Prop) : z_st1 (tX8_key 13) 13 lv st w nx K Rt = (z_1a st (fun x r => z_ob w x 9 (fun fs => z_fl fs 13 (fun u => nx 16 lv (u :: r) w)))) := id rfl
theorem sX8_key_16 (lv : zL) (st : List Value) (w : zW) (nx K : Nat → zL → List Value → zW → Prop) (Rt : Option Value → zW → Prop) : z_st1 (tX8_key 16) 16 lv st w nx K Rt = (z_1i st (fun x r => (x = 0 → nx 22 lv r w) ∧ (¬ x = 0 → nx 19 lv r w))) := id rfl
theorem sX8_key_19 (lv : zL) (st : List Value) (w : zW) (nx K : Nat → zL → List Value → zW → Prop) (Rt : Option Value → zW → Prop) : z_st1 (tX8_key 19) 19 lv st w nx K Rt = (nx 21 lv (.int (-5 : Int32) :: st) w) := id rfl
theorem sX8_key_21 (lv : zL) (st : List Value) (w : zW) (nx K : Nat → zL → List Value → zW → Prop) (Rt : Option Value → zW → Prop) : z_st1 (tX8_key 21) 21 lv st w nx K Rt = (z_e1 st (fun x => Rt (some (.int x)) w)) := id rfl
theorem sX8_key_22 (lv : zL) (st : List Value) (w : zW) (nx K : Nat → zL → List Value → zW → Prop) (Rt : Option Value → zW → Prop) : z_st1 (tX8_key 22) 22 lv st w nx K Rt = (z_la lv 0 (fun x => nx 23 lv (.ref x :: st) w)) := id rfl
theorem sX8_key_23 (lv : zL) (st : List Value) (w : zW) (nx K : Nat → zL → List Value → zW → Prop) (Rt : Option Value → zW → Prop) : z_st1 (tX8_key 23) 23 lv st w nx K Rt = (z_1a st (fun x r => z_ob w x 9 (fun fs => z_fl fs 2 (fun u => nx 26 lv (u :: r) w)))) := id rfl
theorem sX8_key_26 (lv : zL) (st : List Value) (w : zW) (nx K : Nat → zL → List Value → zW → Prop) (Rt : Option Value → zW → Prop) : z_st1 (tX8_key 26) 26 lv st w nx K Rt = (z_li lv 1 (fun x => nx 27 lv (.int x :: st) w)) := id rfl
theorem sX8_key_27 (lv : zL) (st : List Value) (w : zW) (nx K : Nat → zL → List Value → zW → Prop) (Rt : Option Value → zW → Prop) : z_st1 (tX8_key 27) 27 lv st w nx K Rt = (z_li lv 2 (fun x => nx 28 lv (.int x :: st) w)) := id rfl
theorem sX8_key_28 (lv : zL) (st : List Value) (w : zW) (nx K : Nat → zL → List Value → zW → Prop) (Rt : Option Value → zW → Prop) : z_st1 (tX8_key 28) 28 lv st w nx K Rt = (z_li lv 3 (fun x => nx 29 lv (.int x :: st) w)) := id rfl
theorem sX8_key_29 (lv : zL) (st : List Value) (w : zW) (nx K : Nat → zL → List Value → zW → Prop) (Rt : Option Value → zW → Prop) : z_st1 (tX8_key 29) 29 lv st w nx K Rt = (z_li lv 4 (fun x => nx 31 lv (.int x :: st) w)) := id rfl
theorem sX8_key_34 (lv : zL) (st : List Value) (w : zW) (nx K : Nat → zL → List Value → zW → Prop) (Rt : Option Value → zW → Prop) : z_st1 (tX8_key 34) 34 lv st w nx K Rt = (z_e1 st (fun x => Rt (some (.int x)) w)) := id rfl
theorem sX8_key_3 (lv : zL) (st : List Value) (w : zW) (nx K : Nat → zL → List Value → zW → Prop) (Rt : Option Value → zW → Prop) : z_st1 (tX8_key 3) 3 lv st w nx K Rt = K 3 lv st w := id rfl
theorem sX8_key_31 (lv : zL) (st : List Value) (w : zW) (nx K : Nat → zL → List Value → zW → Prop) (Rt : Option Value → zW → Prop) : z_st1 (tX8_key 31) 31 lv st w nx K Rt = K 31 lv st w := id rfl
theorem dX8_key_3 : decode cX8_key 3 = .ok (.invokestatic 102, 3) := by decide +kernel
theorem dX8_key_31 : decode cX8_key 31 = .ok (.invokevirtual 106, 3) := by decide +kernel

def tmX8_record (pc : Nat) : zI := match pc with
  | 0 => (1, 0, 0, 1, 0)
  | 1 => (46, 9, 0, 4, 0)
  | 4 => (1, 0, 0, 5, 0)
  | 5 => (46, 9, 0, 8, 0)
  | 11 => (6, 0, 0, 12, 1)
  | 12 => (8, 0, 0, 13, 0)
  | 16 => (3, 1, 0, 17, 0)
  | 17 => (0, 1, 0, 18, 0)
  | 18 => (6, 0, 0, 19, (-1))
  | 19 => (41, 26, 0, 22, 0)
  | 22 => (6, 0, 0, 23, (-1))
  | 23 => (33, 34, 0, 26, 0)
  | 26 => (1, 0, 0, 27, 0)
  | 27 => (46, 9, 0, 30, 0)
  | 30 => (0, 1, 0, 31, 0)
  | 34 => (53, 0, 0, 35, 0)
  | _ => (99, 0, 0, 0, 0)
def tX8_record (pc : Nat) : zI := if pc < 35 then tmX8_record pc else (99, 0, 0, 0, 0)
theorem tkX8_record : z_tab RX8 wsX8_record 2 (some .int) cX8_record 35 tX8_record := z_tab_of (tm := tmX8_record) (by decide +kernel)
theorem sX8_record_0 (lv : zL) (st : List Value) (w : zW) (nx K : Nat → zL → List Value → zW → Prop) (Rt : Option Value → zW → Prop) : z_st1 (tX8_record 0) 0 lv st w nx K Rt = (z_la lv 0 (fun x => nx 1 lv (.ref x :: st) w)) := id rfl
theorem sX8_record_1 (lv : zL) (st : List Value) (w : zW) (nx K : Nat → zL → List Value → zW → Prop) (Rt : Option Value → zW → Prop) : z_st1 (tX8_record 1) 1 lv st w nx K Rt = (z_1a st (fun x r => z_ob w x 9 (fun fs => z_fl fs 0 (fun u => nx 4 lv (u :: r) w)))) := id rfl
theorem sX8_record_4 (lv : zL) (st : List Value) (w : zW) (nx K : Nat → zL → List Value → zW → Prop) (Rt : Option Value → zW → Prop) : z_st1 (tX8_record 4) 4 lv st w nx K Rt = (z_la lv 0 (fun x => nx 5 lv (.ref x :: st) w)) := id rfl
theorem sX8_record_5 (lv : zL) (st : List Value) (w : zW) (nx K : Nat → zL → List Value → zW → Prop) (Rt : Option Value → zW → Prop) : z_st1 (tX8_record 5) 5 lv st w nx K Rt = (z_1a st (fun x r => z_ob w x 9 (fun fs => z_fl fs 0 (fun u => nx 8 lv (u :: r) w)))) := id rfl
theorem sX8_record_11 (lv : zL) (st : List Value) (w : zW) (nx K : Nat → zL → List Value → zW → Prop) (Rt : Option Value → zW → Prop) : z_st1 (tX8_record 11) 11 lv st w nx K Rt = (nx 12 lv (.int (1 : Int32) :: st) w) := id rfl
theorem sX8_record_12 (lv : zL) (st : List Value) (w : zW) (nx K : Nat → zL → List Value → zW → Prop) (Rt : Option Value → zW → Prop) : z_st1 (tX8_record 12) 12 lv st w nx K Rt = (z_2i st (fun x y r => nx 13 lv (.int (x + y) :: r) w)) := id rfl
theorem sX8_record_16 (lv : zL) (st : List Value) (w : zW) (nx K : Nat → zL → List Value → zW → Prop) (Rt : Option Value → zW → Prop) : z_st1 (tX8_record 16) 16 lv st w nx K Rt = (z_1i st (fun x r => z_ok1 lv 1 = true ∧ nx 17 (lv.set 1 (some (.int x))) r w)) := id rfl
theorem sX8_record_17 (lv : zL) (st : List Value) (w : zW) (nx K : Nat → zL → List Value → zW → Prop) (Rt : Option Value → zW → Prop) : z_st1 (tX8_record 17) 17 lv st w nx K Rt = (z_li lv 1 (fun x => nx 18 lv (.int x :: st) w)) := id rfl
theorem sX8_record_18 (lv : zL) (st : List Value) (w : zW) (nx K : Nat → zL → List Value → zW → Prop) (Rt : Option Value → zW → Prop) : z_st1 (tX8_record 18) 18 lv st w nx K Rt = (nx 19 lv (.int (-1 : Int32) :: st) w) := id rfl
theorem sX8_record_19 (lv : zL) (st : List Value) (w : zW) (nx K : Nat → zL → List Value → zW → Prop) (Rt : Option Value → zW → Prop) : z_st1 (tX8_record 19) 19 lv st w nx K Rt = (z_2i st (fun x y r => (¬ x = y → nx 26 lv r w) ∧ (x = y → nx 22 lv r w))) := id rfl
theorem sX8_record_22 (lv : zL) (st : List Value) (w : zW) (nx K : Nat → zL → List Value → zW → Prop) (Rt : Option Value → zW → Prop) : z_st1 (tX8_record 22) 22 lv st w nx K Rt = (nx 23 lv (.int (-1 : Int32) :: st) w) := id rfl
theorem sX8_record_23 (lv : zL) (st : List Value) (w : zW) (nx K : Nat → zL → List Value → zW → Prop) (Rt : Option Value → zW → Prop) : z_st1 (tX8_record 23) 23 lv st w nx K Rt = (nx 34 lv st w) := id rfl
theorem sX8_record_26 (lv : zL) (st : List Value) (w : zW) (nx K : Nat → zL → List Value → zW → Prop) (Rt : Option Value → zW → Prop) : z_st1 (tX8_record 26) 26 lv st w nx K Rt = (z_la lv 0 (fun x => nx 27 lv (.ref x :: st) w)) := id rfl
theorem sX8_record_27 (lv : zL) (st : List Value) (w : zW) (nx K : Nat → zL → List Value → zW → Prop) (Rt : Option Value → zW → Prop) : z_st1 (tX8_record 27) 27 lv st w nx K Rt = (z_1a st (fun x r => z_ob w x 9 (fun fs => z_fl fs 0 (fun u => nx 30 lv (u :: r) w)))) := id rfl
theorem sX8_record_30 (lv : zL) (st : List Value) (w : zW) (nx K : Nat → zL → List Value → zW → Prop) (Rt : Option Value → zW → Prop) : z_st1 (tX8_record 30) 30 lv st w nx K Rt = (z_li lv 1 (fun x => nx 31 lv (.int x :: st) w)) := id rfl
theorem sX8_record_34 (lv : zL) (st : List Value) (w : zW) (nx K : Nat → zL → List Value → zW → Prop) (Rt : Option Value → zW → Prop) : z_st1 (tX8_record 34) 34 lv st w nx K Rt = (z_e1 st (fun x => Rt (some (.int x)) w)) := id rfl
theorem sX8_record_8 (lv : zL) (st : List Value) (w : zW) (nx K : Nat → zL → List Value → zW → Prop) (Rt : Option Value → zW → Prop) : z_st1 (tX8_record 8) 8 lv st w nx K Rt = K 8 lv st w := id rfl
theorem sX8_record_13 (lv : zL) (st : List Value) (w : zW) (nx K : Nat → zL → List Value → zW → Prop) (Rt : Option Value → zW → Prop) : z_st1 (tX8_record 13) 13 lv st w nx K Rt = K 13 lv st w := id rfl
theorem sX8_record_31 (lv : zL) (st : List Value) (w : zW) (nx K : Nat → zL → List Value → zW → Prop) (Rt : Option Value → zW → Prop) : z_st1 (tX8_record 31) 31 lv st w nx K Rt = K 31 lv st w := id rfl
theorem dX8_record_8 : decode cX8_record 8 = .ok (.invokevirtual 110, 3) := by decide +kernel
theorem dX8_record_13 : decode cX8_record 13 = .ok (.invokevirtual 114, 3) := by decide +kernel
theorem dX8_record_31 : decode cX8_record 31 = .ok (.invokevirtual 118, 3) := by decide +kernel

def tmX8_octet (pc : Nat) : zI := match pc with
  | 0 => (1, 0, 0, 1, 0)
  | 1 => (0, 1, 0, 2, 0)
  | 5 => (35, 11, 0, 8, 0)
  | 8 => (6, 0, 0, 10, (-2))
  | 10 => (53, 0, 0, 11, 0)
  | 11 => (0, 2, 0, 12, 0)
  | 12 => (36, 21, 0, 15, 0)
  | 15 => (0, 2, 0, 16, 0)
  | 16 => (6, 0, 0, 18, 32)
  | 18 => (42, 24, 0, 21, 0)
  | 21 => (6, 0, 0, 23, (-4))
  | 23 => (53, 0, 0, 24, 0)
  | 24 => (1, 0, 0, 25, 0)
  | 25 => (46, 9, 0, 28, 0)
  | 28 => (0, 1, 0, 29, 0)
  | 29 => (6, 0, 0, 30, 1)
  | 30 => (9, 0, 0, 31, 0)
  | 31 => (0, 2, 0, 32, 0)
  | 32 => (0, 3, 0, 33, 0)
  | 33 => (6, 0, 0, 36, 255)
  | 36 => (11, 0, 0, 37, 0)
  | 40 => (1, 0, 0, 41, 0)
  | 41 => (46, 9, 0, 44, 0)
  | 44 => (0, 1, 0, 45, 0)
  | 45 => (6, 0, 0, 46, 1)
  | 46 => (9, 0, 0, 47, 0)
  | 50 => (53, 0, 0, 51, 0)
  | _ => (99, 0, 0, 0, 0)
def tX8_octet (pc : Nat) : zI := if pc < 51 then tmX8_octet pc else (99, 0, 0, 0, 0)
theorem tkX8_octet : z_tab RX8 wsX8_octet 4 (some .int) cX8_octet 51 tX8_octet := z_tab_of (tm := tmX8_octet) (by decide +kernel)
theorem sX8_octet_0 (lv : zL) (st : List Value) (w : zW) (nx K : Nat → zL → List Value → zW → Prop) (Rt : Option Value → zW → Prop) : z_st1 (tX8_octet 0) 0 lv st w nx K Rt = (z_la lv 0 (fun x => nx 1 lv (.ref x :: st) w)) := id rfl
theorem sX8_octet_1 (lv : zL) (st : List Value) (w : zW) (nx K : Nat → zL → List Value → zW → Prop) (Rt : Option Value → zW → Prop) : z_st1 (tX8_octet 1) 1 lv st w nx K Rt = (z_li lv 1 (fun x => nx 2 lv (.int x :: st) w)) := id rfl
theorem sX8_octet_5 (lv : zL) (st : List Value) (w : zW) (nx K : Nat → zL → List Value → zW → Prop) (Rt : Option Value → zW → Prop) : z_st1 (tX8_octet 5) 5 lv st w nx K Rt = (z_1i st (fun x r => (¬ x = 0 → nx 11 lv r w) ∧ (x = 0 → nx 8 lv r w))) := id rfl
theorem sX8_octet_8 (lv : zL) (st : List Value) (w : zW) (nx K : Nat → zL → List Value → zW → Prop) (Rt : Option Value → zW → Prop) : z_st1 (tX8_octet 8) 8 lv st w nx K Rt = (nx 10 lv (.int (-2 : Int32) :: st) w) := id rfl
theorem sX8_octet_10 (lv : zL) (st : List Value) (w : zW) (nx K : Nat → zL → List Value → zW → Prop) (Rt : Option Value → zW → Prop) : z_st1 (tX8_octet 10) 10 lv st w nx K Rt = (z_e1 st (fun x => Rt (some (.int x)) w)) := id rfl
theorem sX8_octet_11 (lv : zL) (st : List Value) (w : zW) (nx K : Nat → zL → List Value → zW → Prop) (Rt : Option Value → zW → Prop) : z_st1 (tX8_octet 11) 11 lv st w nx K Rt = (z_li lv 2 (fun x => nx 12 lv (.int x :: st) w)) := id rfl
theorem sX8_octet_12 (lv : zL) (st : List Value) (w : zW) (nx K : Nat → zL → List Value → zW → Prop) (Rt : Option Value → zW → Prop) : z_st1 (tX8_octet 12) 12 lv st w nx K Rt = (z_1i st (fun x r => (x < 0 → nx 21 lv r w) ∧ (¬ x < 0 → nx 15 lv r w))) := id rfl
theorem sX8_octet_15 (lv : zL) (st : List Value) (w : zW) (nx K : Nat → zL → List Value → zW → Prop) (Rt : Option Value → zW → Prop) : z_st1 (tX8_octet 15) 15 lv st w nx K Rt = (z_li lv 2 (fun x => nx 16 lv (.int x :: st) w)) := id rfl
theorem sX8_octet_16 (lv : zL) (st : List Value) (w : zW) (nx K : Nat → zL → List Value → zW → Prop) (Rt : Option Value → zW → Prop) : z_st1 (tX8_octet 16) 16 lv st w nx K Rt = (nx 18 lv (.int (32 : Int32) :: st) w) := id rfl
theorem sX8_octet_18 (lv : zL) (st : List Value) (w : zW) (nx K : Nat → zL → List Value → zW → Prop) (Rt : Option Value → zW → Prop) : z_st1 (tX8_octet 18) 18 lv st w nx K Rt = (z_2i st (fun x y r => (x < y → nx 24 lv r w) ∧ (¬ x < y → nx 21 lv r w))) := id rfl
theorem sX8_octet_21 (lv : zL) (st : List Value) (w : zW) (nx K : Nat → zL → List Value → zW → Prop) (Rt : Option Value → zW → Prop) : z_st1 (tX8_octet 21) 21 lv st w nx K Rt = (nx 23 lv (.int (-4 : Int32) :: st) w) := id rfl
theorem sX8_octet_23 (lv : zL) (st : List Value) (w : zW) (nx K : Nat → zL → List Value → zW → Prop) (Rt : Option Value → zW → Prop) : z_st1 (tX8_octet 23) 23 lv st w nx K Rt = (z_e1 st (fun x => Rt (some (.int x)) w)) := id rfl
theorem sX8_octet_24 (lv : zL) (st : List Value) (w : zW) (nx K : Nat → zL → List Value → zW → Prop) (Rt : Option Value → zW → Prop) : z_st1 (tX8_octet 24) 24 lv st w nx K Rt = (z_la lv 0 (fun x => nx 25 lv (.ref x :: st) w)) := id rfl
theorem sX8_octet_25 (lv : zL) (st : List Value) (w : zW) (nx K : Nat → zL → List Value → zW → Prop) (Rt : Option Value → zW → Prop) : z_st1 (tX8_octet 25) 25 lv st w nx K Rt = (z_1a st (fun x r => z_ob w x 9 (fun fs => z_fl fs 0 (fun u => nx 28 lv (u :: r) w)))) := id rfl
theorem sX8_octet_28 (lv : zL) (st : List Value) (w : zW) (nx K : Nat → zL → List Value → zW → Prop) (Rt : Option Value → zW → Prop) : z_st1 (tX8_octet 28) 28 lv st w nx K Rt = (z_li lv 1 (fun x => nx 29 lv (.int x :: st) w)) := id rfl
theorem sX8_octet_29 (lv : zL) (st : List Value) (w : zW) (nx K : Nat → zL → List Value → zW → Prop) (Rt : Option Value → zW → Prop) : z_st1 (tX8_octet 29) 29 lv st w nx K Rt = (nx 30 lv (.int (1 : Int32) :: st) w) := id rfl
theorem sX8_octet_30 (lv : zL) (st : List Value) (w : zW) (nx K : Nat → zL → List Value → zW → Prop) (Rt : Option Value → zW → Prop) : z_st1 (tX8_octet 30) 30 lv st w nx K Rt = (z_2i st (fun x y r => nx 31 lv (.int (x - y) :: r) w)) := id rfl
theorem sX8_octet_31 (lv : zL) (st : List Value) (w : zW) (nx K : Nat → zL → List Value → zW → Prop) (Rt : Option Value → zW → Prop) : z_st1 (tX8_octet 31) 31 lv st w nx K Rt = (z_li lv 2 (fun x => nx 32 lv (.int x :: st) w)) := id rfl
theorem sX8_octet_32 (lv : zL) (st : List Value) (w : zW) (nx K : Nat → zL → List Value → zW → Prop) (Rt : Option Value → zW → Prop) : z_st1 (tX8_octet 32) 32 lv st w nx K Rt = (z_li lv 3 (fun x => nx 33 lv (.int x :: st) w)) := id rfl
theorem sX8_octet_33 (lv : zL) (st : List Value) (w : zW) (nx K : Nat → zL → List Value → zW → Prop) (Rt : Option Value → zW → Prop) : z_st1 (tX8_octet 33) 33 lv st w nx K Rt = (nx 36 lv (.int (255 : Int32) :: st) w) := id rfl
theorem sX8_octet_36 (lv : zL) (st : List Value) (w : zW) (nx K : Nat → zL → List Value → zW → Prop) (Rt : Option Value → zW → Prop) : z_st1 (tX8_octet 36) 36 lv st w nx K Rt = (z_2i st (fun x y r => nx 37 lv (.int (x &&& y) :: r) w)) := id rfl
theorem sX8_octet_40 (lv : zL) (st : List Value) (w : zW) (nx K : Nat → zL → List Value → zW → Prop) (Rt : Option Value → zW → Prop) : z_st1 (tX8_octet 40) 40 lv st w nx K Rt = (z_la lv 0 (fun x => nx 41 lv (.ref x :: st) w)) := id rfl
theorem sX8_octet_41 (lv : zL) (st : List Value) (w : zW) (nx K : Nat → zL → List Value → zW → Prop) (Rt : Option Value → zW → Prop) : z_st1 (tX8_octet 41) 41 lv st w nx K Rt = (z_1a st (fun x r => z_ob w x 9 (fun fs => z_fl fs 0 (fun u => nx 44 lv (u :: r) w)))) := id rfl
theorem sX8_octet_44 (lv : zL) (st : List Value) (w : zW) (nx K : Nat → zL → List Value → zW → Prop) (Rt : Option Value → zW → Prop) : z_st1 (tX8_octet 44) 44 lv st w nx K Rt = (z_li lv 1 (fun x => nx 45 lv (.int x :: st) w)) := id rfl
theorem sX8_octet_45 (lv : zL) (st : List Value) (w : zW) (nx K : Nat → zL → List Value → zW → Prop) (Rt : Option Value → zW → Prop) : z_st1 (tX8_octet 45) 45 lv st w nx K Rt = (nx 46 lv (.int (1 : Int32) :: st) w) := id rfl
theorem sX8_octet_46 (lv : zL) (st : List Value) (w : zW) (nx K : Nat → zL → List Value → zW → Prop) (Rt : Option Value → zW → Prop) : z_st1 (tX8_octet 46) 46 lv st w nx K Rt = (z_2i st (fun x y r => nx 47 lv (.int (x - y) :: r) w)) := id rfl
theorem sX8_octet_50 (lv : zL) (st : List Value) (w : zW) (nx K : Nat → zL → List Value → zW → Prop) (Rt : Option Value → zW → Prop) : z_st1 (tX8_octet 50) 50 lv st w nx K Rt = (z_e1 st (fun x => Rt (some (.int x)) w)) := id rfl
theorem sX8_octet_2 (lv : zL) (st : List Value) (w : zW) (nx K : Nat → zL → List Value → zW → Prop) (Rt : Option Value → zW → Prop) : z_st1 (tX8_octet 2) 2 lv st w nx K Rt = K 2 lv st w := id rfl
theorem sX8_octet_37 (lv : zL) (st : List Value) (w : zW) (nx K : Nat → zL → List Value → zW → Prop) (Rt : Option Value → zW → Prop) : z_st1 (tX8_octet 37) 37 lv st w nx K Rt = K 37 lv st w := id rfl
theorem sX8_octet_47 (lv : zL) (st : List Value) (w : zW) (nx K : Nat → zL → List Value → zW → Prop) (Rt : Option Value → zW → Prop) : z_st1 (tX8_octet 47) 47 lv st w nx K Rt = K 47 lv st w := id rfl
theorem dX8_octet_2 : decode cX8_octet 2 = .ok (.invokevirtual 121, 3) := by decide +kernel
theorem dX8_octet_37 : decode cX8_octet 37 = .ok (.invokevirtual 125, 3) := by decide +kernel
theorem dX8_octet_47 : decode cX8_octet 47 = .ok (.invokevirtual 129, 3) := by decide +kernel

def tmX8_include (pc : Nat) : zI := match pc with
  | 0 => (0, 1, 0, 1, 0)
  | 1 => (36, 30, 0, 4, 0)
  | 4 => (0, 1, 0, 5, 0)
  | 5 => (6, 0, 0, 7, 32)
  | 7 => (43, 30, 0, 10, 0)
  | 10 => (0, 2, 0, 11, 0)
  | 11 => (36, 30, 0, 14, 0)
  | 14 => (0, 2, 0, 15, 0)
  | 15 => (6, 0, 0, 16, 4)
  | 16 => (44, 30, 0, 19, 0)
  | 19 => (0, 3, 0, 20, 0)
  | 20 => (36, 30, 0, 23, 0)
  | 23 => (0, 3, 0, 24, 0)
  | 24 => (6, 0, 0, 27, 255)
  | 27 => (45, 33, 0, 30, 0)
  | 30 => (6, 0, 0, 32, (-4))
  | 32 => (53, 0, 0, 33, 0)
  | 33 => (1, 0, 0, 34, 0)
  | 34 => (46, 9, 4, 37, 0)
  | 37 => (0, 1, 0, 38, 0)
  | 38 => (0, 2, 0, 39, 0)
  | 39 => (0, 3, 0, 40, 0)
  | 43 => (6, 0, 0, 44, 1)
  | 44 => (53, 0, 0, 45, 0)
  | _ => (99, 0, 0, 0, 0)
def tX8_include (pc : Nat) : zI := if pc < 45 then tmX8_include pc else (99, 0, 0, 0, 0)
theorem tkX8_include : z_tab RX8 wsX8_include 4 (some .int) cX8_include 45 tX8_include := z_tab_of (tm := tmX8_include) (by decide +kernel)
theorem sX8_include_0 (lv : zL) (st : List Value) (w : zW) (nx K : Nat → zL → List Value → zW → Prop) (Rt : Option Value → zW → Prop) : z_st1 (tX8_include 0) 0 lv st w nx K Rt = (z_li lv 1 (fun x => nx 1 lv (.int x :: st) w)) := id rfl
theorem sX8_include_1 (lv : zL) (st : List Value) (w : zW) (nx K : Nat → zL → List Value → zW → Prop) (Rt : Option Value → zW → Prop) : z_st1 (tX8_include 1) 1 lv st w nx K Rt = (z_1i st (fun x r => (x < 0 → nx 30 lv r w) ∧ (¬ x < 0 → nx 4 lv r w))) := id rfl
theorem sX8_include_4 (lv : zL) (st : List Value) (w : zW) (nx K : Nat → zL → List Value → zW → Prop) (Rt : Option Value → zW → Prop) : z_st1 (tX8_include 4) 4 lv st w nx K Rt = (z_li lv 1 (fun x => nx 5 lv (.int x :: st) w)) := id rfl
theorem sX8_include_5 (lv : zL) (st : List Value) (w : zW) (nx K : Nat → zL → List Value → zW → Prop) (Rt : Option Value → zW → Prop) : z_st1 (tX8_include 5) 5 lv st w nx K Rt = (nx 7 lv (.int (32 : Int32) :: st) w) := id rfl
theorem sX8_include_7 (lv : zL) (st : List Value) (w : zW) (nx K : Nat → zL → List Value → zW → Prop) (Rt : Option Value → zW → Prop) : z_st1 (tX8_include 7) 7 lv st w nx K Rt = (z_2i st (fun x y r => (y ≤ x → nx 30 lv r w) ∧ (¬ y ≤ x → nx 10 lv r w))) := id rfl
theorem sX8_include_10 (lv : zL) (st : List Value) (w : zW) (nx K : Nat → zL → List Value → zW → Prop) (Rt : Option Value → zW → Prop) : z_st1 (tX8_include 10) 10 lv st w nx K Rt = (z_li lv 2 (fun x => nx 11 lv (.int x :: st) w)) := id rfl
theorem sX8_include_11 (lv : zL) (st : List Value) (w : zW) (nx K : Nat → zL → List Value → zW → Prop) (Rt : Option Value → zW → Prop) : z_st1 (tX8_include 11) 11 lv st w nx K Rt = (z_1i st (fun x r => (x < 0 → nx 30 lv r w) ∧ (¬ x < 0 → nx 14 lv r w))) := id rfl
theorem sX8_include_14 (lv : zL) (st : List Value) (w : zW) (nx K : Nat → zL → List Value → zW → Prop) (Rt : Option Value → zW → Prop) : z_st1 (tX8_include 14) 14 lv st w nx K Rt = (z_li lv 2 (fun x => nx 15 lv (.int x :: st) w)) := id rfl
theorem sX8_include_15 (lv : zL) (st : List Value) (w : zW) (nx K : Nat → zL → List Value → zW → Prop) (Rt : Option Value → zW → Prop) : z_st1 (tX8_include 15) 15 lv st w nx K Rt = (nx 16 lv (.int (4 : Int32) :: st) w) := id rfl
theorem sX8_include_16 (lv : zL) (st : List Value) (w : zW) (nx K : Nat → zL → List Value → zW → Prop) (Rt : Option Value → zW → Prop) : z_st1 (tX8_include 16) 16 lv st w nx K Rt = (z_2i st (fun x y r => (y < x → nx 30 lv r w) ∧ (¬ y < x → nx 19 lv r w))) := id rfl
theorem sX8_include_19 (lv : zL) (st : List Value) (w : zW) (nx K : Nat → zL → List Value → zW → Prop) (Rt : Option Value → zW → Prop) : z_st1 (tX8_include 19) 19 lv st w nx K Rt = (z_li lv 3 (fun x => nx 20 lv (.int x :: st) w)) := id rfl
theorem sX8_include_20 (lv : zL) (st : List Value) (w : zW) (nx K : Nat → zL → List Value → zW → Prop) (Rt : Option Value → zW → Prop) : z_st1 (tX8_include 20) 20 lv st w nx K Rt = (z_1i st (fun x r => (x < 0 → nx 30 lv r w) ∧ (¬ x < 0 → nx 23 lv r w))) := id rfl
theorem sX8_include_23 (lv : zL) (st : List Value) (w : zW) (nx K : Nat → zL → List Value → zW → Prop) (Rt : Option Value → zW → Prop) : z_st1 (tX8_include 23) 23 lv st w nx K Rt = (z_li lv 3 (fun x => nx 24 lv (.int x :: st) w)) := id rfl
theorem sX8_include_24 (lv : zL) (st : List Value) (w : zW) (nx K : Nat → zL → List Value → zW → Prop) (Rt : Option Value → zW → Prop) : z_st1 (tX8_include 24) 24 lv st w nx K Rt = (nx 27 lv (.int (255 : Int32) :: st) w) := id rfl
theorem sX8_include_27 (lv : zL) (st : List Value) (w : zW) (nx K : Nat → zL → List Value → zW → Prop) (Rt : Option Value → zW → Prop) : z_st1 (tX8_include 27) 27 lv st w nx K Rt = (z_2i st (fun x y r => (x ≤ y → nx 33 lv r w) ∧ (¬ x ≤ y → nx 30 lv r w))) := id rfl
theorem sX8_include_30 (lv : zL) (st : List Value) (w : zW) (nx K : Nat → zL → List Value → zW → Prop) (Rt : Option Value → zW → Prop) : z_st1 (tX8_include 30) 30 lv st w nx K Rt = (nx 32 lv (.int (-4 : Int32) :: st) w) := id rfl
theorem sX8_include_32 (lv : zL) (st : List Value) (w : zW) (nx K : Nat → zL → List Value → zW → Prop) (Rt : Option Value → zW → Prop) : z_st1 (tX8_include 32) 32 lv st w nx K Rt = (z_e1 st (fun x => Rt (some (.int x)) w)) := id rfl
theorem sX8_include_33 (lv : zL) (st : List Value) (w : zW) (nx K : Nat → zL → List Value → zW → Prop) (Rt : Option Value → zW → Prop) : z_st1 (tX8_include 33) 33 lv st w nx K Rt = (z_la lv 0 (fun x => nx 34 lv (.ref x :: st) w)) := id rfl
theorem sX8_include_34 (lv : zL) (st : List Value) (w : zW) (nx K : Nat → zL → List Value → zW → Prop) (Rt : Option Value → zW → Prop) : z_st1 (tX8_include 34) 34 lv st w nx K Rt = (z_1a st (fun x r => z_ob w x 9 (fun fs => z_fl fs 4 (fun u => nx 37 lv (u :: r) w)))) := id rfl
theorem sX8_include_37 (lv : zL) (st : List Value) (w : zW) (nx K : Nat → zL → List Value → zW → Prop) (Rt : Option Value → zW → Prop) : z_st1 (tX8_include 37) 37 lv st w nx K Rt = (z_li lv 1 (fun x => nx 38 lv (.int x :: st) w)) := id rfl
theorem sX8_include_38 (lv : zL) (st : List Value) (w : zW) (nx K : Nat → zL → List Value → zW → Prop) (Rt : Option Value → zW → Prop) : z_st1 (tX8_include 38) 38 lv st w nx K Rt = (z_li lv 2 (fun x => nx 39 lv (.int x :: st) w)) := id rfl
theorem sX8_include_39 (lv : zL) (st : List Value) (w : zW) (nx K : Nat → zL → List Value → zW → Prop) (Rt : Option Value → zW → Prop) : z_st1 (tX8_include 39) 39 lv st w nx K Rt = (z_li lv 3 (fun x => nx 40 lv (.int x :: st) w)) := id rfl
theorem sX8_include_43 (lv : zL) (st : List Value) (w : zW) (nx K : Nat → zL → List Value → zW → Prop) (Rt : Option Value → zW → Prop) : z_st1 (tX8_include 43) 43 lv st w nx K Rt = (nx 44 lv (.int (1 : Int32) :: st) w) := id rfl
theorem sX8_include_44 (lv : zL) (st : List Value) (w : zW) (nx K : Nat → zL → List Value → zW → Prop) (Rt : Option Value → zW → Prop) : z_st1 (tX8_include 44) 44 lv st w nx K Rt = (z_e1 st (fun x => Rt (some (.int x)) w)) := id rfl
theorem sX8_include_40 (lv : zL) (st : List Value) (w : zW) (nx K : Nat → zL → List Value → zW → Prop) (Rt : Option Value → zW → Prop) : z_st1 (tX8_include 40) 40 lv st w nx K Rt = K 40 lv st w := id rfl
theorem dX8_include_40 : decode cX8_include 40 = .ok (.invokevirtual 132, 3) := by decide +kernel

def tmX8_sum (pc : Nat) : zI := match pc with
  | 0 => (0, 1, 0, 1, 0)
  | 1 => (0, 2, 0, 2, 0)
  | 2 => (6, 0, 0, 4, 8)
  | 7 => (35, 13, 0, 10, 0)
  | 10 => (6, 0, 0, 12, (-4))
  | 12 => (53, 0, 0, 13, 0)
  | 13 => (1, 0, 0, 14, 0)
  | 14 => (46, 9, 5, 17, 0)
  | 17 => (0, 1, 0, 18, 0)
  | 18 => (0, 2, 0, 19, 0)
  | 22 => (53, 0, 0, 23, 0)
  | _ => (99, 0, 0, 0, 0)
def tX8_sum (pc : Nat) : zI := if pc < 23 then tmX8_sum pc else (99, 0, 0, 0, 0)
theorem tkX8_sum : z_tab RX8 wsX8_sum 3 (some .int) cX8_sum 23 tX8_sum := z_tab_of (tm := tmX8_sum) (by decide +kernel)
theorem sX8_sum_0 (lv : zL) (st : List Value) (w : zW) (nx K : Nat → zL → List Value → zW → Prop) (Rt : Option Value → zW → Prop) : z_st1 (tX8_sum 0) 0 lv st w nx K Rt = (z_li lv 1 (fun x => nx 1 lv (.int x :: st) w)) := id rfl
theorem sX8_sum_1 (lv : zL) (st : List Value) (w : zW) (nx K : Nat → zL → List Value → zW → Prop) (Rt : Option Value → zW → Prop) : z_st1 (tX8_sum 1) 1 lv st w nx K Rt = (z_li lv 2 (fun x => nx 2 lv (.int x :: st) w)) := id rfl
theorem sX8_sum_2 (lv : zL) (st : List Value) (w : zW) (nx K : Nat → zL → List Value → zW → Prop) (Rt : Option Value → zW → Prop) : z_st1 (tX8_sum 2) 2 lv st w nx K Rt = (nx 4 lv (.int (8 : Int32) :: st) w) := id rfl
theorem sX8_sum_7 (lv : zL) (st : List Value) (w : zW) (nx K : Nat → zL → List Value → zW → Prop) (Rt : Option Value → zW → Prop) : z_st1 (tX8_sum 7) 7 lv st w nx K Rt = (z_1i st (fun x r => (¬ x = 0 → nx 13 lv r w) ∧ (x = 0 → nx 10 lv r w))) := id rfl
theorem sX8_sum_10 (lv : zL) (st : List Value) (w : zW) (nx K : Nat → zL → List Value → zW → Prop) (Rt : Option Value → zW → Prop) : z_st1 (tX8_sum 10) 10 lv st w nx K Rt = (nx 12 lv (.int (-4 : Int32) :: st) w) := id rfl
theorem sX8_sum_12 (lv : zL) (st : List Value) (w : zW) (nx K : Nat → zL → List Value → zW → Prop) (Rt : Option Value → zW → Prop) : z_st1 (tX8_sum 12) 12 lv st w nx K Rt = (z_e1 st (fun x => Rt (some (.int x)) w)) := id rfl
theorem sX8_sum_13 (lv : zL) (st : List Value) (w : zW) (nx K : Nat → zL → List Value → zW → Prop) (Rt : Option Value → zW → Prop) : z_st1 (tX8_sum 13) 13 lv st w nx K Rt = (z_la lv 0 (fun x => nx 14 lv (.ref x :: st) w)) := id rfl
theorem sX8_sum_14 (lv : zL) (st : List Value) (w : zW) (nx K : Nat → zL → List Value → zW → Prop) (Rt : Option Value → zW → Prop) : z_st1 (tX8_sum 14) 14 lv st w nx K Rt = (z_1a st (fun x r => z_ob w x 9 (fun fs => z_fl fs 5 (fun u => nx 17 lv (u :: r) w)))) := id rfl
theorem sX8_sum_17 (lv : zL) (st : List Value) (w : zW) (nx K : Nat → zL → List Value → zW → Prop) (Rt : Option Value → zW → Prop) : z_st1 (tX8_sum 17) 17 lv st w nx K Rt = (z_li lv 1 (fun x => nx 18 lv (.int x :: st) w)) := id rfl
theorem sX8_sum_18 (lv : zL) (st : List Value) (w : zW) (nx K : Nat → zL → List Value → zW → Prop) (Rt : Option Value → zW → Prop) : z_st1 (tX8_sum 18) 18 lv st w nx K Rt = (z_li lv 2 (fun x => nx 19 lv (.int x :: st) w)) := id rfl
theorem sX8_sum_22 (lv : zL) (st : List Value) (w : zW) (nx K : Nat → zL → List Value → zW → Prop) (Rt : Option Value → zW → Prop) : z_st1 (tX8_sum 22) 22 lv st w nx K Rt = (z_e1 st (fun x => Rt (some (.int x)) w)) := id rfl
theorem sX8_sum_4 (lv : zL) (st : List Value) (w : zW) (nx K : Nat → zL → List Value → zW → Prop) (Rt : Option Value → zW → Prop) : z_st1 (tX8_sum 4) 4 lv st w nx K Rt = K 4 lv st w := id rfl
theorem sX8_sum_19 (lv : zL) (st : List Value) (w : zW) (nx K : Nat → zL → List Value → zW → Prop) (Rt : Option Value → zW → Prop) : z_st1 (tX8_sum 19) 19 lv st w nx K Rt = K 19 lv st w := id rfl
theorem dX8_sum_4 : decode cX8_sum 4 = .ok (.invokestatic 134, 3) := by decide +kernel
theorem dX8_sum_19 : decode cX8_sum 19 = .ok (.invokevirtual 137, 3) := by decide +kernel

def tmX8_exit (pc : Nat) : zI := match pc with
  | 0 => (0, 1, 0, 1, 0)
  | 1 => (36, 29, 0, 4, 0)
  | 4 => (0, 1, 0, 5, 0)
  | 5 => (6, 0, 0, 6, 1)
  | 6 => (44, 29, 0, 9, 0)
  | 9 => (0, 2, 0, 10, 0)
  | 10 => (36, 29, 0, 13, 0)
  | 13 => (0, 2, 0, 14, 0)
  | 14 => (6, 0, 0, 15, 3)
  | 15 => (44, 29, 0, 18, 0)
  | 18 => (0, 3, 0, 19, 0)
  | 19 => (36, 29, 0, 22, 0)
  | 22 => (0, 3, 0, 23, 0)
  | 23 => (6, 0, 0, 26, 1000)
  | 26 => (45, 32, 0, 29, 0)
  | 29 => (6, 0, 0, 31, (-4))
  | 31 => (53, 0, 0, 32, 0)
  | 32 => (0, 1, 0, 33, 0)
  | 33 => (35, 43, 0, 36, 0)
  | 36 => (1, 0, 0, 37, 0)
  | 37 => (46, 9, 6, 40, 0)
  | 40 => (33, 47, 0, 43, 0)
  | 43 => (1, 0, 0, 44, 0)
  | 44 => (46, 9, 7, 47, 0)
  | 47 => (4, 4, 0, 49, 0)
  | 49 => (1, 4, 0, 51, 0)
  | 51 => (0, 2, 0, 52, 0)
  | 52 => (0, 3, 0, 53, 0)
  | 56 => (6, 0, 0, 57, 1)
  | 57 => (53, 0, 0, 58, 0)
  | _ => (99, 0, 0, 0, 0)
def tX8_exit (pc : Nat) : zI := if pc < 58 then tmX8_exit pc else (99, 0, 0, 0, 0)
theorem tkX8_exit : z_tab RX8 wsX8_exit 5 (some .int) cX8_exit 58 tX8_exit := z_tab_of (tm := tmX8_exit) (by decide +kernel)
theorem sX8_exit_0 (lv : zL) (st : List Value) (w : zW) (nx K : Nat → zL → List Value → zW → Prop) (Rt : Option Value → zW → Prop) : z_st1 (tX8_exit 0) 0 lv st w nx K Rt = (z_li lv 1 (fun x => nx 1 lv (.int x :: st) w)) := id rfl
theorem sX8_exit_1 (lv : zL) (st : List Value) (w : zW) (nx K : Nat → zL → List Value → zW → Prop) (Rt : Option Value → zW → Prop) : z_st1 (tX8_exit 1) 1 lv st w nx K Rt = (z_1i st (fun x r => (x < 0 → nx 29 lv r w) ∧ (¬ x < 0 → nx 4 lv r w))) := id rfl
theorem sX8_exit_4 (lv : zL) (st : List Value) (w : zW) (nx K : Nat → zL → List Value → zW → Prop) (Rt : Option Value → zW → Prop) : z_st1 (tX8_exit 4) 4 lv st w nx K Rt = (z_li lv 1 (fun x => nx 5 lv (.int x :: st) w)) := id rfl
theorem sX8_exit_5 (lv : zL) (st : List Value) (w : zW) (nx K : Nat → zL → List Value → zW → Prop) (Rt : Option Value → zW → Prop) : z_st1 (tX8_exit 5) 5 lv st w nx K Rt = (nx 6 lv (.int (1 : Int32) :: st) w) := id rfl
theorem sX8_exit_6 (lv : zL) (st : List Value) (w : zW) (nx K : Nat → zL → List Value → zW → Prop) (Rt : Option Value → zW → Prop) : z_st1 (tX8_exit 6) 6 lv st w nx K Rt = (z_2i st (fun x y r => (y < x → nx 29 lv r w) ∧ (¬ y < x → nx 9 lv r w))) := id rfl
theorem sX8_exit_9 (lv : zL) (st : List Value) (w : zW) (nx K : Nat → zL → List Value → zW → Prop) (Rt : Option Value → zW → Prop) : z_st1 (tX8_exit 9) 9 lv st w nx K Rt = (z_li lv 2 (fun x => nx 10 lv (.int x :: st) w)) := id rfl
theorem sX8_exit_10 (lv : zL) (st : List Value) (w : zW) (nx K : Nat → zL → List Value → zW → Prop) (Rt : Option Value → zW → Prop) : z_st1 (tX8_exit 10) 10 lv st w nx K Rt = (z_1i st (fun x r => (x < 0 → nx 29 lv r w) ∧ (¬ x < 0 → nx 13 lv r w))) := id rfl
theorem sX8_exit_13 (lv : zL) (st : List Value) (w : zW) (nx K : Nat → zL → List Value → zW → Prop) (Rt : Option Value → zW → Prop) : z_st1 (tX8_exit 13) 13 lv st w nx K Rt = (z_li lv 2 (fun x => nx 14 lv (.int x :: st) w)) := id rfl
theorem sX8_exit_14 (lv : zL) (st : List Value) (w : zW) (nx K : Nat → zL → List Value → zW → Prop) (Rt : Option Value → zW → Prop) : z_st1 (tX8_exit 14) 14 lv st w nx K Rt = (nx 15 lv (.int (3 : Int32) :: st) w) := id rfl
theorem sX8_exit_15 (lv : zL) (st : List Value) (w : zW) (nx K : Nat → zL → List Value → zW → Prop) (Rt : Option Value → zW → Prop) : z_st1 (tX8_exit 15) 15 lv st w nx K Rt = (z_2i st (fun x y r => (y < x → nx 29 lv r w) ∧ (¬ y < x → nx 18 lv r w))) := id rfl
theorem sX8_exit_18 (lv : zL) (st : List Value) (w : zW) (nx K : Nat → zL → List Value → zW → Prop) (Rt : Option Value → zW → Prop) : z_st1 (tX8_exit 18) 18 lv st w nx K Rt = (z_li lv 3 (fun x => nx 19 lv (.int x :: st) w)) := id rfl
theorem sX8_exit_19 (lv : zL) (st : List Value) (w : zW) (nx K : Nat → zL → List Value → zW → Prop) (Rt : Option Value → zW → Prop) : z_st1 (tX8_exit 19) 19 lv st w nx K Rt = (z_1i st (fun x r => (x < 0 → nx 29 lv r w) ∧ (¬ x < 0 → nx 22 lv r w))) := id rfl
theorem sX8_exit_22 (lv : zL) (st : List Value) (w : zW) (nx K : Nat → zL → List Value → zW → Prop) (Rt : Option Value → zW → Prop) : z_st1 (tX8_exit 22) 22 lv st w nx K Rt = (z_li lv 3 (fun x => nx 23 lv (.int x :: st) w)) := id rfl
theorem sX8_exit_23 (lv : zL) (st : List Value) (w : zW) (nx K : Nat → zL → List Value → zW → Prop) (Rt : Option Value → zW → Prop) : z_st1 (tX8_exit 23) 23 lv st w nx K Rt = (nx 26 lv (.int (1000 : Int32) :: st) w) := id rfl
theorem sX8_exit_26 (lv : zL) (st : List Value) (w : zW) (nx K : Nat → zL → List Value → zW → Prop) (Rt : Option Value → zW → Prop) : z_st1 (tX8_exit 26) 26 lv st w nx K Rt = (z_2i st (fun x y r => (x ≤ y → nx 32 lv r w) ∧ (¬ x ≤ y → nx 29 lv r w))) := id rfl
theorem sX8_exit_29 (lv : zL) (st : List Value) (w : zW) (nx K : Nat → zL → List Value → zW → Prop) (Rt : Option Value → zW → Prop) : z_st1 (tX8_exit 29) 29 lv st w nx K Rt = (nx 31 lv (.int (-4 : Int32) :: st) w) := id rfl
theorem sX8_exit_31 (lv : zL) (st : List Value) (w : zW) (nx K : Nat → zL → List Value → zW → Prop) (Rt : Option Value → zW → Prop) : z_st1 (tX8_exit 31) 31 lv st w nx K Rt = (z_e1 st (fun x => Rt (some (.int x)) w)) := id rfl
theorem sX8_exit_32 (lv : zL) (st : List Value) (w : zW) (nx K : Nat → zL → List Value → zW → Prop) (Rt : Option Value → zW → Prop) : z_st1 (tX8_exit 32) 32 lv st w nx K Rt = (z_li lv 1 (fun x => nx 33 lv (.int x :: st) w)) := id rfl
theorem sX8_exit_33 (lv : zL) (st : List Value) (w : zW) (nx K : Nat → zL → List Value → zW → Prop) (Rt : Option Value → zW → Prop) : z_st1 (tX8_exit 33) 33 lv st w nx K Rt = (z_1i st (fun x r => (¬ x = 0 → nx 43 lv r w) ∧ (x = 0 → nx 36 lv r w))) := id rfl
theorem sX8_exit_36 (lv : zL) (st : List Value) (w : zW) (nx K : Nat → zL → List Value → zW → Prop) (Rt : Option Value → zW → Prop) : z_st1 (tX8_exit 36) 36 lv st w nx K Rt = (z_la lv 0 (fun x => nx 37 lv (.ref x :: st) w)) := id rfl
theorem sX8_exit_37 (lv : zL) (st : List Value) (w : zW) (nx K : Nat → zL → List Value → zW → Prop) (Rt : Option Value → zW → Prop) : z_st1 (tX8_exit 37) 37 lv st w nx K Rt = (z_1a st (fun x r => z_ob w x 9 (fun fs => z_fl fs 6 (fun u => nx 40 lv (u :: r) w)))) := id rfl
theorem sX8_exit_40 (lv : zL) (st : List Value) (w : zW) (nx K : Nat → zL → List Value → zW → Prop) (Rt : Option Value → zW → Prop) : z_st1 (tX8_exit 40) 40 lv st w nx K Rt = (nx 47 lv st w) := id rfl
theorem sX8_exit_43 (lv : zL) (st : List Value) (w : zW) (nx K : Nat → zL → List Value → zW → Prop) (Rt : Option Value → zW → Prop) : z_st1 (tX8_exit 43) 43 lv st w nx K Rt = (z_la lv 0 (fun x => nx 44 lv (.ref x :: st) w)) := id rfl
theorem sX8_exit_44 (lv : zL) (st : List Value) (w : zW) (nx K : Nat → zL → List Value → zW → Prop) (Rt : Option Value → zW → Prop) : z_st1 (tX8_exit 44) 44 lv st w nx K Rt = (z_1a st (fun x r => z_ob w x 9 (fun fs => z_fl fs 7 (fun u => nx 47 lv (u :: r) w)))) := id rfl
theorem sX8_exit_47 (lv : zL) (st : List Value) (w : zW) (nx K : Nat → zL → List Value → zW → Prop) (Rt : Option Value → zW → Prop) : z_st1 (tX8_exit 47) 47 lv st w nx K Rt = (z_1a st (fun x r => z_ok1 lv 4 = true ∧ nx 49 (lv.set 4 (some (.ref x))) r w)) := id rfl
theorem sX8_exit_49 (lv : zL) (st : List Value) (w : zW) (nx K : Nat → zL → List Value → zW → Prop) (Rt : Option Value → zW → Prop) : z_st1 (tX8_exit 49) 49 lv st w nx K Rt = (z_la lv 4 (fun x => nx 51 lv (.ref x :: st) w)) := id rfl
theorem sX8_exit_51 (lv : zL) (st : List Value) (w : zW) (nx K : Nat → zL → List Value → zW → Prop) (Rt : Option Value → zW → Prop) : z_st1 (tX8_exit 51) 51 lv st w nx K Rt = (z_li lv 2 (fun x => nx 52 lv (.int x :: st) w)) := id rfl
theorem sX8_exit_52 (lv : zL) (st : List Value) (w : zW) (nx K : Nat → zL → List Value → zW → Prop) (Rt : Option Value → zW → Prop) : z_st1 (tX8_exit 52) 52 lv st w nx K Rt = (z_li lv 3 (fun x => nx 53 lv (.int x :: st) w)) := id rfl
theorem sX8_exit_56 (lv : zL) (st : List Value) (w : zW) (nx K : Nat → zL → List Value → zW → Prop) (Rt : Option Value → zW → Prop) : z_st1 (tX8_exit 56) 56 lv st w nx K Rt = (nx 57 lv (.int (1 : Int32) :: st) w) := id rfl
theorem sX8_exit_57 (lv : zL) (st : List Value) (w : zW) (nx K : Nat → zL → List Value → zW → Prop) (Rt : Option Value → zW → Prop) : z_st1 (tX8_exit 57) 57 lv st w nx K Rt = (z_e1 st (fun x => Rt (some (.int x)) w)) := id rfl
theorem sX8_exit_53 (lv : zL) (st : List Value) (w : zW) (nx K : Nat → zL → List Value → zW → Prop) (Rt : Option Value → zW → Prop) : z_st1 (tX8_exit 53) 53 lv st w nx K Rt = K 53 lv st w := id rfl
theorem dX8_exit_53 : decode cX8_exit 53 = .ok (.invokevirtual 140, 3) := by decide +kernel

def tmX8_begin (pc : Nat) : zI := match pc with
  | 0 => (1, 0, 0, 1, 0)
  | 1 => (46, 9, 13, 4, 0)
  | 4 => (6, 0, 0, 5, 1)
  | 5 => (41, 11, 0, 8, 0)
  | 8 => (6, 0, 0, 10, (-5))
  | 10 => (53, 0, 0, 11, 0)
  | 11 => (1, 0, 0, 12, 0)
  | 12 => (6, 0, 0, 13, 1)
  | 13 => (47, 9, 13, 16, 0)
  | 16 => (1, 0, 0, 17, 0)
  | 17 => (6, 0, 0, 18, 0)
  | 18 => (47, 9, 10, 21, 0)
  | 21 => (1, 0, 0, 22, 0)
  | 22 => (6, 0, 0, 23, (-1))
  | 23 => (47, 9, 15, 26, 0)
  | 26 => (6, 0, 0, 27, 1)
  | 27 => (53, 0, 0, 28, 0)
  | _ => (99, 0, 0, 0, 0)
def tX8_begin (pc : Nat) : zI := if pc < 28 then tmX8_begin pc else (99, 0, 0, 0, 0)
theorem tkX8_begin : z_tab RX8 wsX8_begin 1 (some .int) cX8_begin 28 tX8_begin := z_tab_of (tm := tmX8_begin) (by decide +kernel)
theorem sX8_begin_0 (lv : zL) (st : List Value) (w : zW) (nx K : Nat → zL → List Value → zW → Prop) (Rt : Option Value → zW → Prop) : z_st1 (tX8_begin 0) 0 lv st w nx K Rt = (z_la lv 0 (fun x => nx 1 lv (.ref x :: st) w)) := id rfl
theorem sX8_begin_1 (lv : zL) (st : List Value) (w : zW) (nx K : Nat → zL → List Value → zW → Prop) (Rt : Option Value → zW → Prop) : z_st1 (tX8_begin 1) 1 lv st w nx K Rt = (z_1a st (fun x r => z_ob w x 9 (fun fs => z_fl fs 13 (fun u => nx 4 lv (u :: r) w)))) := id rfl
theorem sX8_begin_4 (lv : zL) (st : List Value) (w : zW) (nx K : Nat → zL → List Value → zW → Prop) (Rt : Option Value → zW → Prop) : z_st1 (tX8_begin 4) 4 lv st w nx K Rt = (nx 5 lv (.int (1 : Int32) :: st) w) := id rfl
theorem sX8_begin_5 (lv : zL) (st : List Value) (w : zW) (nx K : Nat → zL → List Value → zW → Prop) (Rt : Option Value → zW → Prop) : z_st1 (tX8_begin 5) 5 lv st w nx K Rt = (z_2i st (fun x y r => (¬ x = y → nx 11 lv r w) ∧ (x = y → nx 8 lv r w))) := id rfl
theorem sX8_begin_8 (lv : zL) (st : List Value) (w : zW) (nx K : Nat → zL → List Value → zW → Prop) (Rt : Option Value → zW → Prop) : z_st1 (tX8_begin 8) 8 lv st w nx K Rt = (nx 10 lv (.int (-5 : Int32) :: st) w) := id rfl
theorem sX8_begin_10 (lv : zL) (st : List Value) (w : zW) (nx K : Nat → zL → List Value → zW → Prop) (Rt : Option Value → zW → Prop) : z_st1 (tX8_begin 10) 10 lv st w nx K Rt = (z_e1 st (fun x => Rt (some (.int x)) w)) := id rfl
theorem sX8_begin_11 (lv : zL) (st : List Value) (w : zW) (nx K : Nat → zL → List Value → zW → Prop) (Rt : Option Value → zW → Prop) : z_st1 (tX8_begin 11) 11 lv st w nx K Rt = (z_la lv 0 (fun x => nx 12 lv (.ref x :: st) w)) := id rfl
theorem sX8_begin_12 (lv : zL) (st : List Value) (w : zW) (nx K : Nat → zL → List Value → zW → Prop) (Rt : Option Value → zW → Prop) : z_st1 (tX8_begin 12) 12 lv st w nx K Rt = (nx 13 lv (.int (1 : Int32) :: st) w) := id rfl
theorem sX8_begin_13 (lv : zL) (st : List Value) (w : zW) (nx K : Nat → zL → List Value → zW → Prop) (Rt : Option Value → zW → Prop) : z_st1 (tX8_begin 13) 13 lv st w nx K Rt = (z_ia st (fun x i r => z_ob w x 9 (fun fs => 13 < fs.length ∧ nx 16 lv r (z_up w x (.inr (9, fs.set 13 (.int i))))))) := id rfl
theorem sX8_begin_16 (lv : zL) (st : List Value) (w : zW) (nx K : Nat → zL → List Value → zW → Prop) (Rt : Option Value → zW → Prop) : z_st1 (tX8_begin 16) 16 lv st w nx K Rt = (z_la lv 0 (fun x => nx 17 lv (.ref x :: st) w)) := id rfl
theorem sX8_begin_17 (lv : zL) (st : List Value) (w : zW) (nx K : Nat → zL → List Value → zW → Prop) (Rt : Option Value → zW → Prop) : z_st1 (tX8_begin 17) 17 lv st w nx K Rt = (nx 18 lv (.int (0 : Int32) :: st) w) := id rfl
theorem sX8_begin_18 (lv : zL) (st : List Value) (w : zW) (nx K : Nat → zL → List Value → zW → Prop) (Rt : Option Value → zW → Prop) : z_st1 (tX8_begin 18) 18 lv st w nx K Rt = (z_ia st (fun x i r => z_ob w x 9 (fun fs => 10 < fs.length ∧ nx 21 lv r (z_up w x (.inr (9, fs.set 10 (.int i))))))) := id rfl
theorem sX8_begin_21 (lv : zL) (st : List Value) (w : zW) (nx K : Nat → zL → List Value → zW → Prop) (Rt : Option Value → zW → Prop) : z_st1 (tX8_begin 21) 21 lv st w nx K Rt = (z_la lv 0 (fun x => nx 22 lv (.ref x :: st) w)) := id rfl
theorem sX8_begin_22 (lv : zL) (st : List Value) (w : zW) (nx K : Nat → zL → List Value → zW → Prop) (Rt : Option Value → zW → Prop) : z_st1 (tX8_begin 22) 22 lv st w nx K Rt = (nx 23 lv (.int (-1 : Int32) :: st) w) := id rfl
theorem sX8_begin_23 (lv : zL) (st : List Value) (w : zW) (nx K : Nat → zL → List Value → zW → Prop) (Rt : Option Value → zW → Prop) : z_st1 (tX8_begin 23) 23 lv st w nx K Rt = (z_ia st (fun x i r => z_ob w x 9 (fun fs => 15 < fs.length ∧ nx 26 lv r (z_up w x (.inr (9, fs.set 15 (.int i))))))) := id rfl
theorem sX8_begin_26 (lv : zL) (st : List Value) (w : zW) (nx K : Nat → zL → List Value → zW → Prop) (Rt : Option Value → zW → Prop) : z_st1 (tX8_begin 26) 26 lv st w nx K Rt = (nx 27 lv (.int (1 : Int32) :: st) w) := id rfl
theorem sX8_begin_27 (lv : zL) (st : List Value) (w : zW) (nx K : Nat → zL → List Value → zW → Prop) (Rt : Option Value → zW → Prop) : z_st1 (tX8_begin 27) 27 lv st w nx K Rt = (z_e1 st (fun x => Rt (some (.int x)) w)) := id rfl
