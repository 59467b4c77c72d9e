def tmX9_init (pc : Nat) : zI := match pc with
  | 0 => (1, 0, 0, 1, 0)
  | 4 => (1, 0, 0, 5, 0)
  | 5 => (6, 0, 0, 7, 8)
  | 7 => (47, 10, 1, 10, 0)
  | 10 => (1, 0, 0, 11, 0)
  | 11 => (6, 0, 0, 12, 2)
  | 12 => (47, 10, 2, 15, 0)
  | 15 => (1, 0, 0, 16, 0)
  | 16 => (6, 0, 0, 18, 8)
  | 23 => (1, 0, 0, 24, 0)
  | 24 => (6, 0, 0, 26, 8)
  | 31 => (1, 0, 0, 32, 0)
  | 32 => (6, 0, 0, 34, 8)
  | 39 => (1, 0, 0, 40, 0)
  | 40 => (6, 0, 0, 42, 8)
  | 47 => (1, 0, 0, 48, 0)
  | 48 => (6, 0, 0, 51, 12800)
  | 56 => (1, 0, 0, 57, 0)
  | 57 => (6, 0, 0, 60, 400)
  | 65 => (1, 0, 0, 66, 0)
  | 66 => (6, 0, 0, 67, 4)
  | 67 => (47, 10, 13, 70, 0)
  | 70 => (1, 0, 0, 71, 0)
  | 71 => (6, 0, 0, 72, 4)
  | 77 => (1, 0, 0, 78, 0)
  | 78 => (6, 0, 0, 79, 4)
  | 84 => (1, 0, 0, 85, 0)
  | 85 => (6, 0, 0, 86, 2)
  | 91 => (1, 0, 0, 92, 0)
  | 92 => (6, 0, 0, 93, 2)
  | 98 => (1, 0, 0, 99, 0)
  | 99 => (6, 0, 0, 100, 2)
  | 105 => (1, 0, 0, 106, 0)
  | 106 => (6, 0, 0, 109, 1000)
  | 114 => (1, 0, 0, 115, 0)
  | 115 => (6, 0, 0, 118, 1600)
  | 123 => (1, 0, 0, 124, 0)
  | 124 => (6, 0, 0, 126, 8)
  | 131 => (1, 0, 0, 132, 0)
  | 139 => (1, 0, 0, 140, 0)
  | 140 => (6, 0, 0, 143, 1600)
  | 148 => (1, 0, 0, 149, 0)
  | 149 => (6, 0, 0, 152, 1600)
  | 157 => (1, 0, 0, 158, 0)
  | 158 => (6, 0, 0, 161, 1600)
  | 166 => (1, 0, 0, 167, 0)
  | 167 => (6, 0, 0, 170, 1600)
  | 175 => (1, 0, 0, 176, 0)
  | 176 => (6, 0, 0, 177, (-1))
  | 177 => (47, 10, 33, 180, 0)
  | 180 => (1, 0, 0, 181, 0)
  | 181 => (6, 0, 0, 183, 9)
  | 188 => (55, 0, 0, 189, 0)
  | _ => (99, 0, 0, 0, 0)
def tX9_init (pc : Nat) : zI := if pc < 189 then tmX9_init pc else (99, 0, 0, 0, 0)
theorem tkX9_init : z_tab RX9 wsX9_init 1 none cX9_init 189 tX9_init := z_tab_of (tm := tmX9_init) (by decide +kernel)
theorem sX9_init_0 (lv : zL) (st : List Value) (w : zW) (nx K : Nat → zL → List Value → zW → Prop) (Rt : Option Value → zW → Prop) : z_st1 (tX9_init 0) 0 lv st w nx K Rt = (z_la lv 0 (fun x => nx 1 lv (.ref x :: st) w)) := id rfl
theorem sX9_init_4 (lv : zL) (st : List Value) (w : zW) (nx K : Nat → zL → List Value → zW → Prop) (Rt : Option Value → zW → Prop) : z_st1 (tX9_init 4) 4 lv st w nx K Rt = (z_la lv 0 (fun x => nx 5 lv (.ref x :: st) w)) := id rfl
theorem sX9_init_5 (lv : zL) (st : List Value) (w : zW) (nx K : Nat → zL → List Value → zW → Prop) (Rt : Option Value → zW → Prop) : z_st1 (tX9_init 5) 5 lv st w nx K Rt = (nx 7 lv (.int (8 : Int32) :: st) w) := id rfl
theorem sX9_init_7 (lv : zL) (st : List Value) (w : zW) (nx K : Nat → zL → List Value → zW → Prop) (Rt : Option Value → zW → Prop) : z_st1 (tX9_init 7) 7 lv st w nx K Rt = (z_ia st (fun x i r => z_ob w x 10 (fun fs => 1 < fs.length ∧ nx 10 lv r (z_up w x (.inr (10, fs.set 1 (.int i))))))) := id rfl
theorem sX9_init_10 (lv : zL) (st : List Value) (w : zW) (nx K : Nat → zL → List Value → zW → Prop) (Rt : Option Value → zW → Prop) : z_st1 (tX9_init 10) 10 lv st w nx K Rt = (z_la lv 0 (fun x => nx 11 lv (.ref x :: st) w)) := id rfl
theorem sX9_init_11 (lv : zL) (st : List Value) (w : zW) (nx K : Nat → zL → List Value → zW → Prop) (Rt : Option Value → zW → Prop) : z_st1 (tX9_init 11) 11 lv st w nx K Rt = (nx 12 lv (.int (2 : Int32) :: st) w) := id rfl
theorem sX9_init_12 (lv : zL) (st : List Value) (w : zW) (nx K : Nat → zL → List Value → zW → Prop) (Rt : Option Value → zW → Prop) : z_st1 (tX9_init 12) 12 lv st w nx K Rt = (z_ia st (fun x i r => z_ob w x 10 (fun fs => 2 < fs.length ∧ nx 15 lv r (z_up w x (.inr (10, fs.set 2 (.int i))))))) := id rfl
theorem sX9_init_15 (lv : zL) (st : List Value) (w : zW) (nx K : Nat → zL → List Value → zW → Prop) (Rt : Option Value → zW → Prop) : z_st1 (tX9_init 15) 15 lv st w nx K Rt = (z_la lv 0 (fun x => nx 16 lv (.ref x :: st) w)) := id rfl
theorem sX9_init_16 (lv : zL) (st : List Value) (w : zW) (nx K : Nat → zL → List Value → zW → Prop) (Rt : Option Value → zW → Prop) : z_st1 (tX9_init 16) 16 lv st w nx K Rt = (nx 18 lv (.int (8 : Int32) :: st) w) := id rfl
theorem sX9_init_23 (lv : zL) (st : List Value) (w : zW) (nx K : Nat → zL → List Value → zW → Prop) (Rt : Option Value → zW → Prop) : z_st1 (tX9_init 23) 23 lv st w nx K Rt = (z_la lv 0 (fun x => nx 24 lv (.ref x :: st) w)) := id rfl
theorem sX9_init_24 (lv : zL) (st : List Value) (w : zW) (nx K : Nat → zL → List Value → zW → Prop) (Rt : Option Value → zW → Prop) : z_st1 (tX9_init 24) 24 lv st w nx K Rt = (nx 26 lv (.int (8 : Int32) :: st) w) := id rfl
theorem sX9_init_31 (lv : zL) (st : List Value) (w : zW) (nx K : Nat → zL → List Value → zW → Prop) (Rt : Option Value → zW → Prop) : z_st1 (tX9_init 31) 31 lv st w nx K Rt = (z_la lv 0 (fun x => nx 32 lv (.ref x :: st) w)) := id rfl
theorem sX9_init_32 (lv : zL) (st : List Value) (w : zW) (nx K : Nat → zL → List Value → zW → Prop) (Rt : Option Value → zW → Prop) : z_st1 (tX9_init 32) 32 lv st w nx K Rt = (nx 34 lv (.int (8 : Int32) :: st) w) := id rfl
theorem sX9_init_39 (lv : zL) (st : List Value) (w : zW) (nx K : Nat → zL → List Value → zW → Prop) (Rt : Option Value → zW → Prop) : z_st1 (tX9_init 39) 39 lv st w nx K Rt = (z_la lv 0 (fun x => nx 40 lv (.ref x :: st) w)) := id rfl
theorem sX9_init_40 (lv : zL) (st : List Value) (w : zW) (nx K : Nat → zL → List Value → zW → Prop) (Rt : Option Value → zW → Prop) : z_st1 (tX9_init 40) 40 lv st w nx K Rt = (nx 42 lv (.int (8 : Int32) :: st) w) := id rfl
theorem sX9_init_47 (lv : zL) (st : List Value) (w : zW) (nx K : Nat → zL → List Value → zW → Prop) (Rt : Option Value → zW → Prop) : z_st1 (tX9_init 47) 47 lv st w nx K Rt = (z_la lv 0 (fun x => nx 48 lv (.ref x :: st) w)) := id rfl
theorem sX9_init_48 (lv : zL) (st : List Value) (w : zW) (nx K : Nat → zL → List Value → zW → Prop) (Rt : Option Value → zW → Prop) : z_st1 (tX9_init 48) 48 lv st w nx K Rt = (nx 51 lv (.int (12800 : Int32) :: st) w) := id rfl
theorem sX9_init_56 (lv : zL) (st : List Value) (w : zW) (nx K : Nat → zL → List Value → zW → Prop) (Rt : Option Value → zW → Prop) : z_st1 (tX9_init 56) 56 lv st w nx K Rt = (z_la lv 0 (fun x => nx 57 lv (.ref x :: st) w)) := id rfl
theorem sX9_init_57 (lv : zL) (st : List Value) (w : zW) (nx K : Nat → zL → List Value → zW → Prop) (Rt : Option Value → zW → Prop) : z_st1 (tX9_init 57) 57 lv st w nx K Rt = (nx 60 lv (.int (400 : Int32) :: st) w) := id rfl
theorem sX9_init_65 (lv : zL) (st : List Value) (w : zW) (nx K : Nat → zL → List Value → zW → Prop) (Rt : Option Value → zW → Prop) : z_st1 (tX9_init 65) 65 lv st w nx K Rt = (z_la lv 0 (fun x => nx 66 lv (.ref x :: st) w)) := id rfl
theorem sX9_init_66 (lv : zL) (st : List Value) (w : zW) (nx K : Nat → zL → List Value → zW → Prop) (Rt : Option Value → zW → Prop) : z_st1 (tX9_init 66) 66 lv st w nx K Rt = (nx 67 lv (.int (4 : Int32) :: st) w) := id rfl
theorem sX9_init_67 (lv : zL) (st : List Value) (w : zW) (nx K : Nat → zL → List Value → zW → Prop) (Rt : Option Value → zW → Prop) : z_st1 (tX9_init 67) 67 lv st w nx K Rt = (z_ia st (fun x i r => z_ob w x 10 (fun fs => 13 < fs.length ∧ nx 70 lv r (z_up w x (.inr (10, fs.set 13 (.int i))))))) := id rfl
theorem sX9_init_70 (lv : zL) (st : List Value) (w : zW) (nx K : Nat → zL → List Value → zW → Prop) (Rt : Option Value → zW → Prop) : z_st1 (tX9_init 70) 70 lv st w nx K Rt = (z_la lv 0 (fun x => nx 71 lv (.ref x :: st) w)) := id rfl
theorem sX9_init_71 (lv : zL) (st : List Value) (w : zW) (nx K : Nat → zL → List Value → zW → Prop) (Rt : Option Value → zW → Prop) : z_st1 (tX9_init 71) 71 lv st w nx K Rt = (nx 72 lv (.int (4 : Int32) :: st) w) := id rfl
theorem sX9_init_77 (lv : zL) (st : List Value) (w : zW) (nx K : Nat → zL → List Value → zW → Prop) (Rt : Option Value → zW → Prop) : z_st1 (tX9_init 77) 77 lv st w nx K Rt = (z_la lv 0 (fun x => nx 78 lv (.ref x :: st) w)) := id rfl
theorem sX9_init_78 (lv : zL) (st : List Value) (w : zW) (nx K : Nat → zL → List Value → zW → Prop) (Rt : Option Value → zW → Prop) : z_st1 (tX9_init 78) 78 lv st w nx K Rt = (nx 79 lv (.int (4 : Int32) :: st) w) := id rfl
theorem sX9_init_84 (lv : zL) (st : List Value) (w : zW) (nx K : Nat → zL → List Value → zW → Prop) (Rt : Option Value → zW → Prop) : z_st1 (tX9_init 84) 84 lv st w nx K Rt = (z_la lv 0 (fun x => nx 85 lv (.ref x :: st) w)) := id rfl
theorem sX9_init_85 (lv : zL) (st : List Value) (w : zW) (nx K : Nat → zL → List Value → zW → Prop) (Rt : Option Value → zW → Prop) : z_st1 (tX9_init 85) 85 lv st w nx K Rt = (nx 86 lv (.int (2 : Int32) :: st) w) := id rfl
theorem sX9_init_91 (lv : zL) (st : List Value) (w : zW) (nx K : Nat → zL → List Value → zW → Prop) (Rt : Option Value → zW → Prop) : z_st1 (tX9_init 91) 91 lv st w nx K Rt = (z_la lv 0 (fun x => nx 92 lv (.ref x :: st) w)) := id rfl
theorem sX9_init_92 (lv : zL) (st : List Value) (w : zW) (nx K : Nat → zL → List Value → zW → Prop) (Rt : Option Value → zW → Prop) : z_st1 (tX9_init 92) 92 lv st w nx K Rt = (nx 93 lv (.int (2 : Int32) :: st) w) := id rfl
theorem sX9_init_98 (lv : zL) (st : List Value) (w : zW) (nx K : Nat → zL → List Value → zW → Prop) (Rt : Option Value → zW → Prop) : z_st1 (tX9_init 98) 98 lv st w nx K Rt = (z_la lv 0 (fun x => nx 99 lv (.ref x :: st) w)) := id rfl
theorem sX9_init_99 (lv : zL) (st : List Value) (w : zW) (nx K : Nat → zL → List Value → zW → Prop) (Rt : Option Value → zW → Prop) : z_st1 (tX9_init 99) 99 lv st w nx K Rt = (nx 100 lv (.int (2 : Int32) :: st) w) := id rfl
theorem sX9_init_105 (lv : zL) (st : List Value) (w : zW) (nx K : Nat → zL → List Value → zW → Prop) (Rt : Option Value → zW → Prop) : z_st1 (tX9_init 105) 105 lv st w nx K Rt = (z_la lv 0 (fun x => nx 106 lv (.ref x :: st) w)) := id rfl
theorem sX9_init_106 (lv : zL) (st : List Value) (w : zW) (nx K : Nat → zL → List Value → zW → Prop) (Rt : Option Value → zW → Prop) : z_st1 (tX9_init 106) 106 lv st w nx K Rt = (nx 109 lv (.int (1000 : Int32) :: st) w) := id rfl
theorem sX9_init_114 (lv : zL) (st : List Value) (w : zW) (nx K : Nat → zL → List Value → zW → Prop) (Rt : Option Value → zW → Prop) : z_st1 (tX9_init 114) 114 lv st w nx K Rt = (z_la lv 0 (fun x => nx 115 lv (.ref x :: st) w)) := id rfl
theorem sX9_init_115 (lv : zL) (st : List Value) (w : zW) (nx K : Nat → zL → List Value → zW → Prop) (Rt : Option Value → zW → Prop) : z_st1 (tX9_init 115) 115 lv st w nx K Rt = (nx 118 lv (.int (1600 : Int32) :: st) w) := id rfl
theorem sX9_init_123 (lv : zL) (st : List Value) (w : zW) (nx K : Nat → zL → List Value → zW → Prop) (Rt : Option Value → zW → Prop) : z_st1 (tX9_init 123) 123 lv st w nx K Rt = (z_la lv 0 (fun x => nx 124 lv (.ref x :: st) w)) := id rfl
theorem sX9_init_124 (lv : zL) (st : List Value) (w : zW) (nx K : Nat → zL → List Value → zW → Prop) (Rt : Option Value → zW → Prop) : z_st1 (tX9_init 124) 124 lv st w nx K Rt = (nx 126 lv (.int (8 : Int32) :: st) w) := id rfl
theorem sX9_init_131 (lv : zL) (st : List Value) (w : zW) (nx K : Nat → zL → List Value → zW → Prop) (Rt : Option Value → zW → Prop) : z_st1 (tX9_init 131) 131 lv st w nx K Rt = (z_la lv 0 (fun x => nx 132 lv (.ref x :: st) w)) := id rfl
theorem sX9_init_139 (lv : zL) (st : List Value) (w : zW) (nx K : Nat → zL → List Value → zW → Prop) (Rt : Option Value → zW → Prop) : z_st1 (tX9_init 139) 139 lv st w nx K Rt = (z_la lv 0 (fun x => nx 140 lv (.ref x :: st) w)) := id rfl
theorem sX9_init_140 (lv : zL) (st : List Value) (w : zW) (nx K : Nat → zL → List Value → zW → Prop) (Rt : Option Value → zW → Prop) : z_st1 (tX9_init 140) 140 lv st w nx K Rt = (nx 143 lv (.int (1600 : Int32) :: st) w) := id rfl
theorem sX9_init_148 (lv : zL) (st : List Value) (w : zW) (nx K : Nat → zL → List Value → zW → Prop) (Rt : Option Value → zW → Prop) : z_st1 (tX9_init 148) 148 lv st w nx K Rt = (z_la lv 0 (fun x => nx 149 lv (.ref x :: st) w)) := id rfl
theorem sX9_init_149 (lv : zL) (st : List Value) (w : zW) (nx K : Nat → zL → List Value → zW → Prop) (Rt : Option Value → zW → Prop) : z_st1 (tX9_init 149) 149 lv st w nx K Rt = (nx 152 lv (.int (1600 : Int32) :: st) w) := id rfl
theorem sX9_init_157 (lv : zL) (st : List Value) (w : zW) (nx K : Nat → zL → List Value → zW → Prop) (Rt : Option Value → zW → Prop) : z_st1 (tX9_init 157) 157 lv st w nx K Rt = (z_la lv 0 (fun x => nx 158 lv (.ref x :: st) w)) := id rfl
theorem sX9_init_158 (lv : zL) (st : List Value) (w : zW) (nx K : Nat → zL → List Value → zW → Prop) (Rt : Option Value → zW → Prop) : z_st1 (tX9_init 158) 158 lv st w nx K Rt = (nx 161 lv (.int (1600 : Int32) :: st) w) := id rfl
theorem sX9_init_166 (lv : zL) (st : List Value) (w : zW) (nx K : Nat → zL → List Value → zW → Prop) (Rt : Option Value → zW → Prop) : z_st1 (tX9_init 166) 166 lv st w nx K Rt = (z_la lv 0 (fun x => nx 167 lv (.ref x :: st) w)) := id rfl
theorem sX9_init_167 (lv : zL) (st : List Value) (w : zW) (nx K : Nat → zL → List Value → zW → Prop) (Rt : Option Value → zW → Prop) : z_st1 (tX9_init 167) 167 lv st w nx K Rt = (nx 170 lv (.int (1600 : Int32) :: st) w) := id rfl
theorem sX9_init_175 (lv : zL) (st : List Value) (w : zW) (nx K : Nat → zL → List Value → zW → Prop) (Rt : Option Value → zW → Prop) : z_st1 (tX9_init 175) 175 lv st w nx K Rt = (z_la lv 0 (fun x => nx 176 lv (.ref x :: st) w)) := id rfl
theorem sX9_init_176 (lv : zL) (st : List Value) (w : zW) (nx K : Nat → zL → List Value → zW → Prop) (Rt : Option Value → zW → Prop) : z_st1 (tX9_init 176) 176 lv st w nx K Rt = (nx 177 lv (.int (-1 : Int32) :: st) w) := id rfl
theorem sX9_init_177 (lv : zL) (st : List Value) (w : zW) (nx K : Nat → zL → List Value → zW → Prop) (Rt : Option Value → zW → Prop) : z_st1 (tX9_init 177) 177 lv st w nx K Rt = (z_ia st (fun x i r => z_ob w x 10 (fun fs => 33 < fs.length ∧ nx 180 lv r (z_up w x (.inr (10, fs.set 33 (.int i))))))) := id rfl
theorem sX9_init_180 (lv : zL) (st : List Value) (w : zW) (nx K : Nat → zL → List Value → zW → Prop) (Rt : Option Value → zW → Prop) : z_st1 (tX9_init 180) 180 lv st w nx K Rt = (z_la lv 0 (fun x => nx 181 lv (.ref x :: st) w)) := id rfl
theorem sX9_init_181 (lv : zL) (st : List Value) (w : zW) (nx K : Nat → zL → List Value → zW → Prop) (Rt : Option Value → zW → Prop) : z_st1 (tX9_init 181) 181 lv st w nx K Rt = (nx 183 lv (.int (9 : Int32) :: st) w) := id rfl
theorem sX9_init_188 (lv : zL) (st : List Value) (w : zW) (nx K : Nat → zL → List Value → zW → Prop) (Rt : Option Value → zW → Prop) : z_st1 (tX9_init 188) 188 lv st w nx K Rt = (z_e0 st (Rt none w)) := id rfl
theorem sX9_init_1 (lv : zL) (st : List Value) (w : zW) (nx K : Nat → zL → List Value → zW → Prop) (Rt : Option Value → zW → Prop) : z_st1 (tX9_init 1) 1 lv st w nx K Rt = K 1 lv st w := id rfl
theorem sX9_init_18 (lv : zL) (st : List Value) (w : zW) (nx K : Nat → zL → List Value → zW → Prop) (Rt : Option Value → zW → Prop) : z_st1 (tX9_init 18) 18 lv st w nx K Rt = K 18 lv st w := id rfl
theorem sX9_init_20 (lv : zL) (st : List Value) (w : zW) (nx K : Nat → zL → List Value → zW → Prop) (Rt : Option Value → zW → Prop) : z_st1 (tX9_init 20) 20 lv st w nx K Rt = K 20 lv st w := id rfl
theorem sX9_init_26 (lv : zL) (st : List Value) (w : zW) (nx K : Nat → zL → List Value → zW → Prop) (Rt : Option Value → zW → Prop) : z_st1 (tX9_init 26) 26 lv st w nx K Rt = K 26 lv st w := id rfl
theorem sX9_init_28 (lv : zL) (st : List Value) (w : zW) (nx K : Nat → zL → List Value → zW → Prop) (Rt : Option Value → zW → Prop) : z_st1 (tX9_init 28) 28 lv st w nx K Rt = K 28 lv st w := id rfl
theorem sX9_init_34 (lv : zL) (st : List Value) (w : zW) (nx K : Nat → zL → List Value → zW → Prop) (Rt : Option Value → zW → Prop) : z_st1 (tX9_init 34) 34 lv st w nx K Rt = K 34 lv st w := id rfl
theorem sX9_init_36 (lv : zL) (st : List Value) (w : zW) (nx K : Nat → zL → List Value → zW → Prop) (Rt : Option Value → zW → Prop) : z_st1 (tX9_init 36) 36 lv st w nx K Rt = K 36 lv st w := id rfl
theorem sX9_init_42 (lv : zL) (st : List Value) (w : zW) (nx K : Nat → zL → List Value → zW → Prop) (Rt : Option Value → zW → Prop) : z_st1 (tX9_init 42) 42 lv st w nx K Rt = K 42 lv st w := id rfl
theorem sX9_init_44 (lv : zL) (st : List Value) (w : zW) (nx K : Nat → zL → List Value → zW → Prop) (Rt : Option Value → zW → Prop) : z_st1 (tX9_init 44) 44 lv st w nx K Rt = K 44 lv st w := id rfl
theorem sX9_init_51 (lv : zL) (st : List Value) (w : zW) (nx K : Nat → zL → List Value → zW → Prop) (Rt : Option Value → zW → Prop) : z_st1 (tX9_init 51) 51 lv st w nx K Rt = K 51 lv st w := id rfl
theorem sX9_init_53 (lv : zL) (st : List Value) (w : zW) (nx K : Nat → zL → List Value → zW → Prop) (Rt : Option Value → zW → Prop) : z_st1 (tX9_init 53) 53 lv st w nx K Rt = K 53 lv st w := id rfl
theorem sX9_init_60 (lv : zL) (st : List Value) (w : zW) (nx K : Nat → zL → List Value → zW → Prop) (Rt : Option Value → zW → Prop) : z_st1 (tX9_init 60) 60 lv st w nx K Rt = K 60 lv st w := id rfl
theorem sX9_init_62 (lv : zL) (st : List Value) (w : zW) (nx K : Nat → zL → List Value → zW → Prop) (Rt : Option Value → zW → Prop) : z_st1 (tX9_init 62) 62 lv st w nx K Rt = K 62 lv st w := id rfl
theorem sX9_init_72 (lv : zL) (st : List Value) (w : zW) (nx K : Nat → zL → List Value → zW → Prop) (Rt : Option Value → zW → Prop) : z_st1 (tX9_init 72) 72 lv st w nx K Rt = K 72 lv st w := id rfl
theorem sX9_init_74 (lv : zL) (st : List Value) (w : zW) (nx K : Nat → zL → List Value → zW → Prop) (Rt : Option Value → zW → Prop) : z_st1 (tX9_init 74) 74 lv st w nx K Rt = K 74 lv st w := id rfl
theorem sX9_init_79 (lv : zL) (st : List Value) (w : zW) (nx K : Nat → zL → List Value → zW → Prop) (Rt : Option Value → zW → Prop) : z_st1 (tX9_init 79) 79 lv st w nx K Rt = K 79 lv st w := id rfl
theorem sX9_init_81 (lv : zL) (st : List Value) (w : zW) (nx K : Nat → zL → List Value → zW → Prop) (Rt : Option Value → zW → Prop) : z_st1 (tX9_init 81) 81 lv st w nx K Rt = K 81 lv st w := id rfl
theorem sX9_init_86 (lv : zL) (st : List Value) (w : zW) (nx K : Nat → zL → List Value → zW → Prop) (Rt : Option Value → zW → Prop) : z_st1 (tX9_init 86) 86 lv st w nx K Rt = K 86 lv st w := id rfl
theorem sX9_init_88 (lv : zL) (st : List Value) (w : zW) (nx K : Nat → zL → List Value → zW → Prop) (Rt : Option Value → zW → Prop) : z_st1 (tX9_init 88) 88 lv st w nx K Rt = K 88 lv st w := id rfl
theorem sX9_init_93 (lv : zL) (st : List Value) (w : zW) (nx K : Nat → zL → List Value → zW → Prop) (Rt : Option Value → zW → Prop) : z_st1 (tX9_init 93) 93 lv st w nx K Rt = K 93 lv st w := id rfl
theorem sX9_init_95 (lv : zL) (st : List Value) (w : zW) (nx K : Nat → zL → List Value → zW → Prop) (Rt : Option Value → zW → Prop) : z_st1 (tX9_init 95) 95 lv st w nx K Rt = K 95 lv st w := id rfl
theorem sX9_init_100 (lv : zL) (st : List Value) (w : zW) (nx K : Nat → zL → List Value → zW → Prop) (Rt : Option Value → zW → Prop) : z_st1 (tX9_init 100) 100 lv st w nx K Rt = K 100 lv st w := id rfl
theorem sX9_init_102 (lv : zL) (st : List Value) (w : zW) (nx K : Nat → zL → List Value → zW → Prop) (Rt : Option Value → zW → Prop) : z_st1 (tX9_init 102) 102 lv st w nx K Rt = K 102 lv st w := id rfl
theorem sX9_init_109 (lv : zL) (st : List Value) (w : zW) (nx K : Nat → zL → List Value → zW → Prop) (Rt : Option Value → zW → Prop) : z_st1 (tX9_init 109) 109 lv st w nx K Rt = K 109 lv st w := id rfl
theorem sX9_init_111 (lv : zL) (st : List Value) (w : zW) (nx K : Nat → zL → List Value → zW → Prop) (Rt : Option Value → zW → Prop) : z_st1 (tX9_init 111) 111 lv st w nx K Rt = K 111 lv st w := id rfl
theorem sX9_init_118 (lv : zL) (st : List Value) (w : zW) (nx K : Nat → zL → List Value → zW → Prop) (Rt : Option Value → zW → Prop) : z_st1 (tX9_init 118) 118 lv st w nx K Rt = K 118 lv st w := id rfl
theorem sX9_init_120 (lv : zL) (st : List Value) (w : zW) (nx K : Nat → zL → List Value → zW → Prop) (Rt : Option Value → zW → Prop) : z_st1 (tX9_init 120) 120 lv st w nx K Rt = K 120 lv st w := id rfl
theorem sX9_init_126 (lv : zL) (st : List Value) (w : zW) (nx K : Nat → zL → List Value → zW → Prop) (Rt : Option Value → zW → Prop) : z_st1 (tX9_init 126) 126 lv st w nx K Rt = K 126 lv st w := id rfl
theorem sX9_init_128 (lv : zL) (st : List Value) (w : zW) (nx K : Nat → zL → List Value → zW → Prop) (Rt : Option Value → zW → Prop) : z_st1 (tX9_init 128) 128 lv st w nx K Rt = K 128 lv st w := id rfl
theorem sX9_init_132 (lv : zL) (st : List Value) (w : zW) (nx K : Nat → zL → List Value → zW → Prop) (Rt : Option Value → zW → Prop) : z_st1 (tX9_init 132) 132 lv st w nx K Rt = K 132 lv st w := id rfl
theorem sX9_init_134 (lv : zL) (st : List Value) (w : zW) (nx K : Nat → zL → List Value → zW → Prop) (Rt : Option Value → zW → Prop) : z_st1 (tX9_init 134) 134 lv st w nx K Rt = K 134 lv st w := id rfl
theorem sX9_init_136 (lv : zL) (st : List Value) (w : zW) (nx K : Nat → zL → List Value → zW → Prop) (Rt : Option Value → zW → Prop) : z_st1 (tX9_init 136) 136 lv st w nx K Rt = K 136 lv st w := id rfl
theorem sX9_init_143 (lv : zL) (st : List Value) (w : zW) (nx K : Nat → zL → List Value → zW → Prop) (Rt : Option Value → zW → Prop) : z_st1 (tX9_init 143) 143 lv st w nx K Rt = K 143 lv st w := id rfl
theorem sX9_init_145 (lv : zL) (st : List Value) (w : zW) (nx K : Nat → zL → List Value → zW → Prop) (Rt : Option Value → zW → Prop) : z_st1 (tX9_init 145) 145 lv st w nx K Rt = K 145 lv st w := id rfl
theorem sX9_init_152 (lv : zL) (st : List Value) (w : zW) (nx K : Nat → zL → List Value → zW → Prop) (Rt : Option Value → zW → Prop) : z_st1 (tX9_init 152) 152 lv st w nx K Rt = K 152 lv st w := id rfl
theorem sX9_init_154 (lv : zL) (st : List Value) (w : zW) (nx K : Nat → zL → List Value → zW → Prop) (Rt : Option Value → zW → Prop) : z_st1 (tX9_init 154) 154 lv st w nx K Rt = K 154 lv st w := id rfl
theorem sX9_init_161 (lv : zL) (st : List Value) (w : zW) (nx K : Nat → zL → List Value → zW → Prop) (Rt : Option Value → zW → Prop) : z_st1 (tX9_init 161) 161 lv st w nx K Rt = K 161 lv st w := id rfl
theorem sX9_init_163 (lv : zL) (st : List Value) (w : zW) (nx K : Nat → zL → List Value → zW → Prop) (Rt : Option Value → zW → Prop) : z_st1 (tX9_init 163) 163 lv st w nx K Rt = K 163 lv st w := id rfl
theorem sX9_init_170 (lv : zL) (st : List Value) (w : zW) (nx K : Nat → zL → List Value → zW → Prop) (Rt : Option Value → zW → Prop) : z_st1 (tX9_init 170) 170 lv st w nx K Rt = K 170 lv st w := id rfl
theorem sX9_init_172 (lv : zL) (st : List Value) (w : zW) (nx K : Nat → zL → List Value → zW → Prop) (Rt : Option Value → zW → Prop) : z_st1 (tX9_init 172) 172 lv st w nx K Rt = K 172 lv st w := id rfl
theorem sX9_init_183 (lv : zL) (st : List Value) (w : zW) (nx K : Nat → zL → List Value → zW → Prop) (Rt : Option Value → zW → Prop) : z_st1 (tX9_init 183) 183 lv st w nx K Rt = K 183 lv st w := id rfl
theorem sX9_init_185 (lv : zL) (st : List Value) (w : zW) (nx K : Nat → zL → List Value → zW → Prop) (Rt : Option Value → zW → Prop) : z_st1 (tX9_init 185) 185 lv st w nx K Rt = K 185 lv st w := id rfl
theorem dX9_init_1 : decode cX9_init 1 = .ok (.invokespecial 1, 3) := by decide +kernel
theorem dX9_init_18 : decode cX9_init 18 = .ok (.newarray .int, 2) := by decide +kernel
theorem dX9_init_20 : decode cX9_init 20 = .ok (.putfield 16, 3) := by decide +kernel
theorem dX9_init_26 : decode cX9_init 26 = .ok (.newarray .int, 2) := by decide +kernel
theorem dX9_init_28 : decode cX9_init 28 = .ok (.putfield 20, 3) := by decide +kernel
theorem dX9_init_34 : decode cX9_init 34 = .ok (.newarray .int, 2) := by decide +kernel
theorem dX9_init_36 : decode cX9_init 36 = .ok (.putfield 23, 3) := by decide +kernel
theorem dX9_init_42 : decode cX9_init 42 = .ok (.newarray .boolean, 2) := by decide +kernel
theorem dX9_init_44 : decode cX9_init 44 = .ok (.putfield 26, 3) := by decide +kernel
theorem dX9_init_51 : decode cX9_init 51 = .ok (.newarray .int, 2) := by decide +kernel
theorem dX9_init_53 : decode cX9_init 53 = .ok (.putfield 30, 3) := by decide +kernel
theorem dX9_init_60 : decode cX9_init 60 = .ok (.newarray .int, 2) := by decide +kernel
theorem dX9_init_62 : decode cX9_init 62 = .ok (.putfield 33, 3) := by decide +kernel
theorem dX9_init_72 : decode cX9_init 72 = .ok (.newarray .int, 2) := by decide +kernel
theorem dX9_init_74 : decode cX9_init 74 = .ok (.putfield 39, 3) := by decide +kernel
theorem dX9_init_79 : decode cX9_init 79 = .ok (.newarray .int, 2) := by decide +kernel
theorem dX9_init_81 : decode cX9_init 81 = .ok (.putfield 42, 3) := by decide +kernel
theorem dX9_init_86 : decode cX9_init 86 = .ok (.newarray .int, 2) := by decide +kernel
theorem dX9_init_88 : decode cX9_init 88 = .ok (.putfield 45, 3) := by decide +kernel
theorem dX9_init_93 : decode cX9_init 93 = .ok (.newarray .int, 2) := by decide +kernel
theorem dX9_init_95 : decode cX9_init 95 = .ok (.putfield 48, 3) := by decide +kernel
theorem dX9_init_100 : decode cX9_init 100 = .ok (.newarray .int, 2) := by decide +kernel
theorem dX9_init_102 : decode cX9_init 102 = .ok (.putfield 51, 3) := by decide +kernel
theorem dX9_init_109 : decode cX9_init 109 = .ok (.newarray .int, 2) := by decide +kernel
theorem dX9_init_111 : decode cX9_init 111 = .ok (.putfield 54, 3) := by decide +kernel
theorem dX9_init_118 : decode cX9_init 118 = .ok (.newarray .int, 2) := by decide +kernel
theorem dX9_init_120 : decode cX9_init 120 = .ok (.putfield 57, 3) := by decide +kernel
theorem dX9_init_126 : decode cX9_init 126 = .ok (.newarray .int, 2) := by decide +kernel
theorem dX9_init_128 : decode cX9_init 128 = .ok (.putfield 60, 3) := by decide +kernel
theorem dX9_init_132 : decode cX9_init 132 = .ok (.ldc 63, 2) := by decide +kernel
theorem dX9_init_134 : decode cX9_init 134 = .ok (.newarray .int, 2) := by decide +kernel
theorem dX9_init_136 : decode cX9_init 136 = .ok (.putfield 64, 3) := by decide +kernel
theorem dX9_init_143 : decode cX9_init 143 = .ok (.newarray .int, 2) := by decide +kernel
theorem dX9_init_145 : decode cX9_init 145 = .ok (.putfield 67, 3) := by decide +kernel
theorem dX9_init_152 : decode cX9_init 152 = .ok (.newarray .int, 2) := by decide +kernel
theorem dX9_init_154 : decode cX9_init 154 = .ok (.putfield 70, 3) := by decide +kernel
theorem dX9_init_161 : decode cX9_init 161 = .ok (.newarray .int, 2) := by decide +kernel
theorem dX9_init_163 : decode cX9_init 163 = .ok (.putfield 73, 3) := by decide +kernel
theorem dX9_init_170 : decode cX9_init 170 = .ok (.newarray .int, 2) := by decide +kernel
theorem dX9_init_172 : decode cX9_init 172 = .ok (.putfield 76, 3) := by decide +kernel
theorem dX9_init_183 : decode cX9_init 183 = .ok (.newarray .int, 2) := by decide +kernel
theorem dX9_init_185 : decode cX9_init 185 = .ok (.putfield 82, 3) := by decide +kernel

def tmX9_isPlace (pc : Nat) : zI := match pc with
  | 0 => (0, 0, 0, 1, 0)
  | 1 => (36, 32, 0, 4, 0)
  | 4 => (0, 0, 0, 5, 0)
  | 5 => (6, 0, 0, 7, 32)
  | 7 => (43, 32, 0, 10, 0)
  | 10 => (0, 1, 0, 11, 0)
  | 11 => (6, 0, 0, 12, 1)
  | 12 => (42, 32, 0, 15, 0)
  | 15 => (0, 1, 0, 16, 0)
  | 16 => (0, 2, 0, 17, 0)
  | 17 => (44, 32, 0, 20, 0)
  | 20 => (0, 1, 0, 21, 0)
  | 21 => (6, 0, 0, 23, 32)
  | 23 => (0, 0, 0, 24, 0)
  | 24 => (9, 0, 0, 25, 0)
  | 25 => (44, 32, 0, 28, 0)
  | 28 => (6, 0, 0, 29, 1)
  | 29 => (33, 33, 0, 32, 0)
  | 32 => (6, 0, 0, 33, 0)
  | 33 => (58, 0, 0, 34, 0)
  | _ => (99, 0, 0, 0, 0)
def tX9_isPlace (pc : Nat) : zI := if pc < 34 then tmX9_isPlace pc else (99, 0, 0, 0, 0)
theorem tkX9_isPlace : z_tab RX9 wsX9_isPlace 3 (some .boolean) cX9_isPlace 34 tX9_isPlace := z_tab_of (tm := tmX9_isPlace) (by decide +kernel)
theorem sX9_isPlace_0 (lv : zL) (st : List Value) (w : zW) (nx K : Nat → zL → List Value → zW → Prop) (Rt : Option Value → zW → Prop) : z_st1 (tX9_isPlace 0) 0 lv st w nx K Rt = (z_li lv 0 (fun x => nx 1 lv (.int x :: st) w)) := id rfl
theorem sX9_isPlace_1 (lv : zL) (st : List Value) (w : zW) (nx K : Nat → zL → List Value → zW → Prop) (Rt : Option Value → zW → Prop) : z_st1 (tX9_isPlace 1) 1 lv st w nx K Rt = (z_1i st (fun x r => (x < 0 → nx 32 lv r w) ∧ (¬ x < 0 → nx 4 lv r w))) := id rfl
theorem sX9_isPlace_4 (lv : zL) (st : List Value) (w : zW) (nx K : Nat → zL → List Value → zW → Prop) (Rt : Option Value → zW → Prop) : z_st1 (tX9_isPlace 4) 4 lv st w nx K Rt = (z_li lv 0 (fun x => nx 5 lv (.int x :: st) w)) := id rfl
theorem sX9_isPlace_5 (lv : zL) (st : List Value) (w : zW) (nx K : Nat → zL → List Value → zW → Prop) (Rt : Option Value → zW → Prop) : z_st1 (tX9_isPlace 5) 5 lv st w nx K Rt = (nx 7 lv (.int (32 : Int32) :: st) w) := id rfl
theorem sX9_isPlace_7 (lv : zL) (st : List Value) (w : zW) (nx K : Nat → zL → List Value → zW → Prop) (Rt : Option Value → zW → Prop) : z_st1 (tX9_isPlace 7) 7 lv st w nx K Rt = (z_2i st (fun x y r => (y ≤ x → nx 32 lv r w) ∧ (¬ y ≤ x → nx 10 lv r w))) := id rfl
theorem sX9_isPlace_10 (lv : zL) (st : List Value) (w : zW) (nx K : Nat → zL → List Value → zW → Prop) (Rt : Option Value → zW → Prop) : z_st1 (tX9_isPlace 10) 10 lv st w nx K Rt = (z_li lv 1 (fun x => nx 11 lv (.int x :: st) w)) := id rfl
theorem sX9_isPlace_11 (lv : zL) (st : List Value) (w : zW) (nx K : Nat → zL → List Value → zW → Prop) (Rt : Option Value → zW → Prop) : z_st1 (tX9_isPlace 11) 11 lv st w nx K Rt = (nx 12 lv (.int (1 : Int32) :: st) w) := id rfl
theorem sX9_isPlace_12 (lv : zL) (st : List Value) (w : zW) (nx K : Nat → zL → List Value → zW → Prop) (Rt : Option Value → zW → Prop) : z_st1 (tX9_isPlace 12) 12 lv st w nx K Rt = (z_2i st (fun x y r => (x < y → nx 32 lv r w) ∧ (¬ x < y → nx 15 lv r w))) := id rfl
theorem sX9_isPlace_15 (lv : zL) (st : List Value) (w : zW) (nx K : Nat → zL → List Value → zW → Prop) (Rt : Option Value → zW → Prop) : z_st1 (tX9_isPlace 15) 15 lv st w nx K Rt = (z_li lv 1 (fun x => nx 16 lv (.int x :: st) w)) := id rfl
theorem sX9_isPlace_16 (lv : zL) (st : List Value) (w : zW) (nx K : Nat → zL → List Value → zW → Prop) (Rt : Option Value → zW → Prop) : z_st1 (tX9_isPlace 16) 16 lv st w nx K Rt = (z_li lv 2 (fun x => nx 17 lv (.int x :: st) w)) := id rfl
theorem sX9_isPlace_17 (lv : zL) (st : List Value) (w : zW) (nx K : Nat → zL → List Value → zW → Prop) (Rt : Option Value → zW → Prop) : z_st1 (tX9_isPlace 17) 17 lv st w nx K Rt = (z_2i st (fun x y r => (y < x → nx 32 lv r w) ∧ (¬ y < x → nx 20 lv r w))) := id rfl
theorem sX9_isPlace_20 (lv : zL) (st : List Value) (w : zW) (nx K : Nat → zL → List Value → zW → Prop) (Rt : Option Value → zW → Prop) : z_st1 (tX9_isPlace 20) 20 lv st w nx K Rt = (z_li lv 1 (fun x => nx 21 lv (.int x :: st) w)) := id rfl
theorem sX9_isPlace_21 (lv : zL) (st : List Value) (w : zW) (nx K : Nat → zL → List Value → zW → Prop) (Rt : Option Value → zW → Prop) : z_st1 (tX9_isPlace 21) 21 lv st w nx K Rt = (nx 23 lv (.int (32 : Int32) :: st) w) := id rfl
theorem sX9_isPlace_23 (lv : zL) (st : List Value) (w : zW) (nx K : Nat → zL → List Value → zW → Prop) (Rt : Option Value → zW → Prop) : z_st1 (tX9_isPlace 23) 23 lv st w nx K Rt = (z_li lv 0 (fun x => nx 24 lv (.int x :: st) w)) := id rfl
theorem sX9_isPlace_24 (lv : zL) (st : List Value) (w : zW) (nx K : Nat → zL → List Value → zW → Prop) (Rt : Option Value → zW → Prop) : z_st1 (tX9_isPlace 24) 24 lv st w nx K Rt = (z_2i st (fun x y r => nx 25 lv (.int (x - y) :: r) w)) := id rfl
theorem sX9_isPlace_25 (lv : zL) (st : List Value) (w : zW) (nx K : Nat → zL → List Value → zW → Prop) (Rt : Option Value → zW → Prop) : z_st1 (tX9_isPlace 25) 25 lv st w nx K Rt = (z_2i st (fun x y r => (y < x → nx 32 lv r w) ∧ (¬ y < x → nx 28 lv r w))) := id rfl
theorem sX9_isPlace_28 (lv : zL) (st : List Value) (w : zW) (nx K : Nat → zL → List Value → zW → Prop) (Rt : Option Value → zW → Prop) : z_st1 (tX9_isPlace 28) 28 lv st w nx K Rt = (nx 29 lv (.int (1 : Int32) :: st) w) := id rfl
theorem sX9_isPlace_29 (lv : zL) (st : List Value) (w : zW) (nx K : Nat → zL → List Value → zW → Prop) (Rt : Option Value → zW → Prop) : z_st1 (tX9_isPlace 29) 29 lv st w nx K Rt = (nx 33 lv st w) := id rfl
theorem sX9_isPlace_32 (lv : zL) (st : List Value) (w : zW) (nx K : Nat → zL → List Value → zW → Prop) (Rt : Option Value → zW → Prop) : z_st1 (tX9_isPlace 32) 32 lv st w nx K Rt = (nx 33 lv (.int (0 : Int32) :: st) w) := id rfl
theorem sX9_isPlace_33 (lv : zL) (st : List Value) (w : zW) (nx K : Nat → zL → List Value → zW → Prop) (Rt : Option Value → zW → Prop) : z_st1 (tX9_isPlace 33) 33 lv st w nx K Rt = (z_e1 st (fun x => (x = 0 ∨ x = 1) ∧ Rt (some (.int x)) w)) := id rfl

def tmX9_area (pc : Nat) : zI := match pc with
  | 0 => (1, 0, 0, 1, 0)
  | 1 => (0, 1, 0, 2, 0)
  | 2 => (37, 9, 0, 5, 0)
  | 5 => (6, 0, 0, 6, 1)
  | 6 => (33, 10, 0, 9, 0)
  | 9 => (6, 0, 0, 10, 0)
  | 10 => (47, 10, 0, 13, 0)
  | 13 => (0, 1, 0, 14, 0)
  | 14 => (37, 19, 0, 17, 0)
  | 17 => (6, 0, 0, 18, 0)
  | 18 => (53, 0, 0, 19, 0)
  | 19 => (0, 1, 0, 20, 0)
  | 20 => (34, 30, 0, 23, 0)
  | 23 => (0, 1, 0, 24, 0)
  | 24 => (6, 0, 0, 27, 1000)
  | 27 => (45, 33, 0, 30, 0)
  | 30 => (6, 0, 0, 32, (-4))
  | 32 => (53, 0, 0, 33, 0)
  | 33 => (1, 0, 0, 34, 0)
  | 34 => (0, 1, 0, 35, 0)
  | 35 => (47, 10, 1, 38, 0)
  | 38 => (6, 0, 0, 39, 1)
  | 39 => (53, 0, 0, 40, 0)
  | _ => (99, 0, 0, 0, 0)
def tX9_area (pc : Nat) : zI := if pc < 40 then tmX9_area pc else (99, 0, 0, 0, 0)
theorem tkX9_area : z_tab RX9 wsX9_area 2 (some .int) cX9_area 40 tX9_area := z_tab_of (tm := tmX9_area) (by decide +kernel)
theorem sX9_area_0 (lv : zL) (st : List Value) (w : zW) (nx K : Nat → zL → List Value → zW → Prop) (Rt : Option Value → zW → Prop) : z_st1 (tX9_area 0) 0 lv st w nx K Rt = (z_la lv 0 (fun x => nx 1 lv (.ref x :: st) w)) := id rfl
theorem sX9_area_1 (lv : zL) (st : List Value) (w : zW) (nx K : Nat → zL → List Value → zW → Prop) (Rt : Option Value → zW → Prop) : z_st1 (tX9_area 1) 1 lv st w nx K Rt = (z_li lv 1 (fun x => nx 2 lv (.int x :: st) w)) := id rfl
theorem sX9_area_2 (lv : zL) (st : List Value) (w : zW) (nx K : Nat → zL → List Value → zW → Prop) (Rt : Option Value → zW → Prop) : z_st1 (tX9_area 2) 2 lv st w nx K Rt = (z_1i st (fun x r => (0 ≤ x → nx 9 lv r w) ∧ (¬ 0 ≤ x → nx 5 lv r w))) := id rfl
theorem sX9_area_5 (lv : zL) (st : List Value) (w : zW) (nx K : Nat → zL → List Value → zW → Prop) (Rt : Option Value → zW → Prop) : z_st1 (tX9_area 5) 5 lv st w nx K Rt = (nx 6 lv (.int (1 : Int32) :: st) w) := id rfl
theorem sX9_area_6 (lv : zL) (st : List Value) (w : zW) (nx K : Nat → zL → List Value → zW → Prop) (Rt : Option Value → zW → Prop) : z_st1 (tX9_area 6) 6 lv st w nx K Rt = (nx 10 lv st w) := id rfl
theorem sX9_area_9 (lv : zL) (st : List Value) (w : zW) (nx K : Nat → zL → List Value → zW → Prop) (Rt : Option Value → zW → Prop) : z_st1 (tX9_area 9) 9 lv st w nx K Rt = (nx 10 lv (.int (0 : Int32) :: st) w) := id rfl
theorem sX9_area_10 (lv : zL) (st : List Value) (w : zW) (nx K : Nat → zL → List Value → zW → Prop) (Rt : Option Value → zW → Prop) : z_st1 (tX9_area 10) 10 lv st w nx K Rt = (z_ia st (fun x i r => z_ob w x 10 (fun fs => 0 < fs.length ∧ nx 13 lv r (z_up w x (.inr (10, fs.set 0 (.int i))))))) := id rfl
theorem sX9_area_13 (lv : zL) (st : List Value) (w : zW) (nx K : Nat → zL → List Value → zW → Prop) (Rt : Option Value → zW → Prop) : z_st1 (tX9_area 13) 13 lv st w nx K Rt = (z_li lv 1 (fun x => nx 14 lv (.int x :: st) w)) := id rfl
theorem sX9_area_14 (lv : zL) (st : List Value) (w : zW) (nx K : Nat → zL → List Value → zW → Prop) (Rt : Option Value → zW → Prop) : z_st1 (tX9_area 14) 14 lv st w nx K Rt = (z_1i st (fun x r => (0 ≤ x → nx 19 lv r w) ∧ (¬ 0 ≤ x → nx 17 lv r w))) := id rfl
theorem sX9_area_17 (lv : zL) (st : List Value) (w : zW) (nx K : Nat → zL → List Value → zW → Prop) (Rt : Option Value → zW → Prop) : z_st1 (tX9_area 17) 17 lv st w nx K Rt = (nx 18 lv (.int (0 : Int32) :: st) w) := id rfl
theorem sX9_area_18 (lv : zL) (st : List Value) (w : zW) (nx K : Nat → zL → List Value → zW → Prop) (Rt : Option Value → zW → Prop) : z_st1 (tX9_area 18) 18 lv st w nx K Rt = (z_e1 st (fun x => Rt (some (.int x)) w)) := id rfl
theorem sX9_area_19 (lv : zL) (st : List Value) (w : zW) (nx K : Nat → zL → List Value → zW → Prop) (Rt : Option Value → zW → Prop) : z_st1 (tX9_area 19) 19 lv st w nx K Rt = (z_li lv 1 (fun x => nx 20 lv (.int x :: st) w)) := id rfl
theorem sX9_area_20 (lv : zL) (st : List Value) (w : zW) (nx K : Nat → zL → List Value → zW → Prop) (Rt : Option Value → zW → Prop) : z_st1 (tX9_area 20) 20 lv st w nx K Rt = (z_1i st (fun x r => (x = 0 → nx 30 lv r w) ∧ (¬ x = 0 → nx 23 lv r w))) := id rfl
theorem sX9_area_23 (lv : zL) (st : List Value) (w : zW) (nx K : Nat → zL → List Value → zW → Prop) (Rt : Option Value → zW → Prop) : z_st1 (tX9_area 23) 23 lv st w nx K Rt = (z_li lv 1 (fun x => nx 24 lv (.int x :: st) w)) := id rfl
theorem sX9_area_24 (lv : zL) (st : List Value) (w : zW) (nx K : Nat → zL → List Value → zW → Prop) (Rt : Option Value → zW → Prop) : z_st1 (tX9_area 24) 24 lv st w nx K Rt = (nx 27 lv (.int (1000 : Int32) :: st) w) := id rfl
theorem sX9_area_27 (lv : zL) (st : List Value) (w : zW) (nx K : Nat → zL → List Value → zW → Prop) (Rt : Option Value → zW → Prop) : z_st1 (tX9_area 27) 27 lv st w nx K Rt = (z_2i st (fun x y r => (x ≤ y → nx 33 lv r w) ∧ (¬ x ≤ y → nx 30 lv r w))) := id rfl
theorem sX9_area_30 (lv : zL) (st : List Value) (w : zW) (nx K : Nat → zL → List Value → zW → Prop) (Rt : Option Value → zW → Prop) : z_st1 (tX9_area 30) 30 lv st w nx K Rt = (nx 32 lv (.int (-4 : Int32) :: st) w) := id rfl
theorem sX9_area_32 (lv : zL) (st : List Value) (w : zW) (nx K : Nat → zL → List Value → zW → Prop) (Rt : Option Value → zW → Prop) : z_st1 (tX9_area 32) 32 lv st w nx K Rt = (z_e1 st (fun x => Rt (some (.int x)) w)) := id rfl
theorem sX9_area_33 (lv : zL) (st : List Value) (w : zW) (nx K : Nat → zL → List Value → zW → Prop) (Rt : Option Value → zW → Prop) : z_st1 (tX9_area 33) 33 lv st w nx K Rt = (z_la lv 0 (fun x => nx 34 lv (.ref x :: st) w)) := id rfl
theorem sX9_area_34 (lv : zL) (st : List Value) (w : zW) (nx K : Nat → zL → List Value → zW → Prop) (Rt : Option Value → zW → Prop) : z_st1 (tX9_area 34) 34 lv st w nx K Rt = (z_li lv 1 (fun x => nx 35 lv (.int x :: st) w)) := id rfl
theorem sX9_area_35 (lv : zL) (st : List Value) (w : zW) (nx K : Nat → zL → List Value → zW → Prop) (Rt : Option Value → zW → Prop) : z_st1 (tX9_area 35) 35 lv st w nx K Rt = (z_ia st (fun x i r => z_ob w x 10 (fun fs => 1 < fs.length ∧ nx 38 lv r (z_up w x (.inr (10, fs.set 1 (.int i))))))) := id rfl
theorem sX9_area_38 (lv : zL) (st : List Value) (w : zW) (nx K : Nat → zL → List Value → zW → Prop) (Rt : Option Value → zW → Prop) : z_st1 (tX9_area 38) 38 lv st w nx K Rt = (nx 39 lv (.int (1 : Int32) :: st) w) := id rfl
theorem sX9_area_39 (lv : zL) (st : List Value) (w : zW) (nx K : Nat → zL → List Value → zW → Prop) (Rt : Option Value → zW → Prop) : z_st1 (tX9_area 39) 39 lv st w nx K Rt = (z_e1 st (fun x => Rt (some (.int x)) w)) := id rfl

def tmX9_ways (pc : Nat) : zI := match pc with
  | 0 => (1, 0, 0, 1, 0)
  | 1 => (6, 0, 0, 2, 0)
  | 2 => (47, 10, 0, 5, 0)
  | 5 => (0, 1, 0, 6, 0)
  | 6 => (6, 0, 0, 7, 2)
  | 7 => (42, 16, 0, 10, 0)
  | 10 => (0, 1, 0, 11, 0)
  | 11 => (6, 0, 0, 13, 16)
  | 13 => (45, 19, 0, 16, 0)
  | 16 => (6, 0, 0, 18, (-4))
  | 18 => (53, 0, 0, 19, 0)
  | 19 => (1, 0, 0, 20, 0)
  | 20 => (46, 10, 2, 23, 0)
  | 23 => (3, 2, 0, 24, 0)
  | 24 => (1, 0, 0, 25, 0)
  | 25 => (0, 1, 0, 26, 0)
  | 26 => (47, 10, 2, 29, 0)
  | 29 => (0, 2, 0, 30, 0)
  | 30 => (53, 0, 0, 31, 0)
  | _ => (99, 0, 0, 0, 0)
def tX9_ways (pc : Nat) : zI := if pc < 31 then tmX9_ways pc else (99, 0, 0, 0, 0)
theorem tkX9_ways : z_tab RX9 wsX9_ways 3 (some .int) cX9_ways 31 tX9_ways := z_tab_of (tm := tmX9_ways) (by decide +kernel)
theorem sX9_ways_0 (lv : zL) (st : List Value) (w : zW) (nx K : Nat → zL → List Value → zW → Prop) (Rt : Option Value → zW → Prop) : z_st1 (tX9_ways 0) 0 lv st w nx K Rt = (z_la lv 0 (fun x => nx 1 lv (.ref x :: st) w)) := id rfl
theorem sX9_ways_1 (lv : zL) (st : List Value) (w : zW) (nx K : Nat → zL → List Value → zW → Prop) (Rt : Option Value → zW → Prop) : z_st1 (tX9_ways 1) 1 lv st w nx K Rt = (nx 2 lv (.int (0 : Int32) :: st) w) := id rfl
theorem sX9_ways_2 (lv : zL) (st : List Value) (w : zW) (nx K : Nat → zL → List Value → zW → Prop) (Rt : Option Value → zW → Prop) : z_st1 (tX9_ways 2) 2 lv st w nx K Rt = (z_ia st (fun x i r => z_ob w x 10 (fun fs => 0 < fs.length ∧ nx 5 lv r (z_up w x (.inr (10, fs.set 0 (.int i))))))) := id rfl
theorem sX9_ways_5 (lv : zL) (st : List Value) (w : zW) (nx K : Nat → zL → List Value → zW → Prop) (Rt : Option Value → zW → Prop) : z_st1 (tX9_ways 5) 5 lv st w nx K Rt = (z_li lv 1 (fun x => nx 6 lv (.int x :: st) w)) := id rfl
theorem sX9_ways_6 (lv : zL) (st : List Value) (w : zW) (nx K : Nat → zL → List Value → zW → Prop) (Rt : Option Value → zW → Prop) : z_st1 (tX9_ways 6) 6 lv st w nx K Rt = (nx 7 lv (.int (2 : Int32) :: st) w) := id rfl
theorem sX9_ways_7 (lv : zL) (st : List Value) (w : zW) (nx K : Nat → zL → List Value → zW → Prop) (Rt : Option Value → zW → Prop) : z_st1 (tX9_ways 7) 7 lv st w nx K Rt = (z_2i st (fun x y r => (x < y → nx 16 lv r w) ∧ (¬ x < y → nx 10 lv r w))) := id rfl
theorem sX9_ways_10 (lv : zL) (st : List Value) (w : zW) (nx K : Nat → zL → List Value → zW → Prop) (Rt : Option Value → zW → Prop) : z_st1 (tX9_ways 10) 10 lv st w nx K Rt = (z_li lv 1 (fun x => nx 11 lv (.int x :: st) w)) := id rfl
theorem sX9_ways_11 (lv : zL) (st : List Value) (w : zW) (nx K : Nat → zL → List Value → zW → Prop) (Rt : Option Value → zW → Prop) : z_st1 (tX9_ways 11) 11 lv st w nx K Rt = (nx 13 lv (.int (16 : Int32) :: st) w) := id rfl
theorem sX9_ways_13 (lv : zL) (st : List Value) (w : zW) (nx K : Nat → zL → List Value → zW → Prop) (Rt : Option Value → zW → Prop) : z_st1 (tX9_ways 13) 13 lv st w nx K Rt = (z_2i st (fun x y r => (x ≤ y → nx 19 lv r w) ∧ (¬ x ≤ y → nx 16 lv r w))) := id rfl
theorem sX9_ways_16 (lv : zL) (st : List Value) (w : zW) (nx K : Nat → zL → List Value → zW → Prop) (Rt : Option Value → zW → Prop) : z_st1 (tX9_ways 16) 16 lv st w nx K Rt = (nx 18 lv (.int (-4 : Int32) :: st) w) := id rfl
theorem sX9_ways_18 (lv : zL) (st : List Value) (w : zW) (nx K : Nat → zL → List Value → zW → Prop) (Rt : Option Value → zW → Prop) : z_st1 (tX9_ways 18) 18 lv st w nx K Rt = (z_e1 st (fun x => Rt (some (.int x)) w)) := id rfl
theorem sX9_ways_19 (lv : zL) (st : List Value) (w : zW) (nx K : Nat → zL → List Value → zW → Prop) (Rt : Option Value → zW → Prop) : z_st1 (tX9_ways 19) 19 lv st w nx K Rt = (z_la lv 0 (fun x => nx 20 lv (.ref x :: st) w)) := id rfl
theorem sX9_ways_20 (lv : zL) (st : List Value) (w : zW) (nx K : Nat → zL → List Value → zW → Prop) (Rt : Option Value → zW → Prop) : z_st1 (tX9_ways 20) 20 lv st w nx K Rt = (z_1a st (fun x r => z_ob w x 10 (fun fs => z_fl fs 2 (fun u => nx 23 lv (u :: r) w)))) := id rfl
theorem sX9_ways_23 (lv : zL) (st : List Value) (w : zW) (nx K : Nat → zL → List Value → zW → Prop) (Rt : Option Value → zW → Prop) : z_st1 (tX9_ways 23) 23 lv st w nx K Rt = (z_1i st (fun x r => z_ok1 lv 2 = true ∧ nx 24 (lv.set 2 (some (.int x))) r w)) := id rfl
theorem sX9_ways_24 (lv : zL) (st : List Value) (w : zW) (nx K : Nat → zL → List Value → zW → Prop) (Rt : Option Value → zW → Prop) : z_st1 (tX9_ways 24) 24 lv st w nx K Rt = (z_la lv 0 (fun x => nx 25 lv (.ref x :: st) w)) := id rfl
theorem sX9_ways_25 (lv : zL) (st : List Value) (w : zW) (nx K : Nat → zL → List Value → zW → Prop) (Rt : Option Value → zW → Prop) : z_st1 (tX9_ways 25) 25 lv st w nx K Rt = (z_li lv 1 (fun x => nx 26 lv (.int x :: st) w)) := id rfl
theorem sX9_ways_26 (lv : zL) (st : List Value) (w : zW) (nx K : Nat → zL → List Value → zW → Prop) (Rt : Option Value → zW → Prop) : z_st1 (tX9_ways 26) 26 lv st w nx K Rt = (z_ia st (fun x i r => z_ob w x 10 (fun fs => 2 < fs.length ∧ nx 29 lv r (z_up w x (.inr (10, fs.set 2 (.int i))))))) := id rfl
theorem sX9_ways_29 (lv : zL) (st : List Value) (w : zW) (nx K : Nat → zL → List Value → zW → Prop) (Rt : Option Value → zW → Prop) : z_st1 (tX9_ways 29) 29 lv st w nx K Rt = (z_li lv 2 (fun x => nx 30 lv (.int x :: st) w)) := id rfl
theorem sX9_ways_30 (lv : zL) (st : List Value) (w : zW) (nx K : Nat → zL → List Value → zW → Prop) (Rt : Option Value → zW → Prop) : z_st1 (tX9_ways 30) 30 lv st w nx K Rt = (z_e1 st (fun x => Rt (some (.int x)) w)) := id rfl

def tmX9_key (pc : Nat) : zI := match pc with
  | 0 => (1, 0, 0, 1, 0)
  | 1 => (6, 0, 0, 2, 0)
  | 2 => (47, 10, 0, 5, 0)
  | 5 => (0, 3, 0, 6, 0)
  | 6 => (36, 43, 0, 9, 0)
  | 9 => (0, 3, 0, 10, 0)
  | 10 => (6, 0, 0, 11, 3)
  | 11 => (44, 43, 0, 14, 0)
  | 14 => (0, 1, 0, 15, 0)
  | 15 => (0, 2, 0, 16, 0)
  | 16 => (0, 3, 0, 17, 0)
  | 17 => (35, 25, 0, 20, 0)
  | 20 => (6, 0, 0, 22, 32)
  | 22 => (33, 37, 0, 25, 0)
  | 25 => (0, 3, 0, 26, 0)
  | 26 => (6, 0, 0, 27, 3)
  | 27 => (41, 35, 0, 30, 0)
  | 30 => (6, 0, 0, 32, 18)
  | 32 => (33, 37, 0, 35, 0)
  | 35 => (6, 0, 0, 37, 8)
  | 40 => (35, 46, 0, 43, 0)
  | 43 => (6, 0, 0, 45, (-4))
  | 45 => (53, 0, 0, 46, 0)
  | 46 => (1, 0, 0, 47, 0)
  | 47 => (46, 10, 3, 50, 0)
  | 50 => (34, 56, 0, 53, 0)
  | 53 => (6, 0, 0, 55, (-5))
  | 55 => (53, 0, 0, 56, 0)
  | 56 => (1, 0, 0, 57, 0)
  | 57 => (46, 10, 8, 60, 0)
  | 60 => (6, 0, 0, 62, 8)
  | 62 => (41, 67, 0, 65, 0)
  | 65 => (6, 0, 0, 66, (-1))
  | 66 => (53, 0, 0, 67, 0)
  | 67 => (1, 0, 0, 68, 0)
  | 68 => (46, 10, 4, 71, 0)
  | 71 => (1, 0, 0, 72, 0)
  | 72 => (46, 10, 8, 75, 0)
  | 75 => (0, 1, 0, 76, 0)
  | 76 => (49, 0, 0, 77, 0)
  | 77 => (1, 0, 0, 78, 0)
  | 78 => (46, 10, 5, 81, 0)
  | 81 => (1, 0, 0, 82, 0)
  | 82 => (46, 10, 8, 85, 0)
  | 85 => (0, 2, 0, 86, 0)
  | 86 => (49, 0, 0, 87, 0)
  | 87 => (1, 0, 0, 88, 0)
  | 88 => (46, 10, 6, 91, 0)
  | 91 => (1, 0, 0, 92, 0)
  | 92 => (46, 10, 8, 95, 0)
  | 95 => (0, 3, 0, 96, 0)
  | 96 => (49, 0, 0, 97, 0)
  | 97 => (1, 0, 0, 98, 0)
  | 98 => (46, 10, 7, 101, 0)
  | 101 => (1, 0, 0, 102, 0)
  | 102 => (46, 10, 8, 105, 0)
  | 105 => (0, 4, 0, 107, 0)
  | 107 => (51, 0, 0, 108, 0)
  | 108 => (1, 0, 0, 109, 0)
  | 109 => (29, 0, 0, 110, 0)
  | 110 => (46, 10, 8, 113, 0)
  | 113 => (6, 0, 0, 114, 1)
  | 114 => (8, 0, 0, 115, 0)
  | 115 => (47, 10, 8, 118, 0)
  | 118 => (1, 0, 0, 119, 0)
  | 119 => (46, 10, 8, 122, 0)
  | 122 => (53, 0, 0, 123, 0)
  | _ => (99, 0, 0, 0, 0)
def tX9_key (pc : Nat) : zI := if pc < 123 then tmX9_key pc else (99, 0, 0, 0, 0)
theorem tkX9_key : z_tab RX9 wsX9_key 5 (some .int) cX9_key 123 tX9_key := z_tab_of (tm := tmX9_key) (by decide +kernel)
theorem sX9_key_0 (lv : zL) (st : List Value) (w : zW) (nx K : Nat → zL → List Value → zW → Prop) (Rt : Option Value → zW → Prop) : z_st1 (tX9_key 0) 0 lv st w nx K Rt = (z_la lv 0 (fun x => nx 1 lv (.ref x :: st) w)) := id rfl
theorem sX9_key_1 (lv : zL) (st : List Value) (w : zW) (nx K : Nat → zL → List Value → zW → Prop) (Rt : Option Value → zW → Prop) : z_st1 (tX9_key 1) 1 lv st w nx K Rt = (nx 2 lv (.int (0 : Int32) :: st) w) := id rfl
theorem sX9_key_2 (lv : zL) (st : List Value) (w : zW) (nx K : Nat → zL → List Value → zW → Prop) (Rt : Option Value → zW → Prop) : z_st1 (tX9_key 2) 2 lv st w nx K Rt = (z_ia st (fun x i r => z_ob w x 10 (fun fs => 0 < fs.length ∧ nx 5 lv r (z_up w x (.inr (10, fs.set 0 (.int i))))))) := id rfl
theorem sX9_key_5 (lv : zL) (st : List Value) (w : zW) (nx K : Nat → zL → List Value → zW → Prop) (Rt : Option Value → zW → Prop) : z_st1 (tX9_key 5) 5 lv st w nx K Rt = (z_li lv 3 (fun x => nx 6 lv (.int x :: st) w)) := id rfl
theorem sX9_key_6 (lv : zL) (st : List Value) (w : zW) (nx K : Nat → zL → List Value → zW → Prop) (Rt : Option Value → zW → Prop) : z_st1 (tX9_key 6) 6 lv st w nx K Rt = (z_1i st (fun x r => (x < 0 → nx 43 lv r w) ∧ (¬ x < 0 → nx 9 lv r w))) := id rfl
theorem sX9_key_9 (lv : zL) (st : List Value) (w : zW) (nx K : Nat → zL → List Value → zW → Prop) (Rt : Option Value → zW → Prop) : z_st1 (tX9_key 9) 9 lv st w nx K Rt = (z_li lv 3 (fun x => nx 10 lv (.int x :: st) w)) := id rfl
theorem sX9_key_10 (lv : zL) (st : List Value) (w : zW) (nx K : Nat → zL → List Value → zW → Prop) (Rt : Option Value → zW → Prop) : z_st1 (tX9_key 10) 10 lv st w nx K Rt = (nx 11 lv (.int (3 : Int32) :: st) w) := id rfl
theorem sX9_key_11 (lv : zL) (st : List Value) (w : zW) (nx K : Nat → zL → List Value → zW → Prop) (Rt : Option Value → zW → Prop) : z_st1 (tX9_key 11) 11 lv st w nx K Rt = (z_2i st (fun x y r => (y < x → nx 43 lv r w) ∧ (¬ y < x → nx 14 lv r w))) := id rfl
theorem sX9_key_14 (lv : zL) (st : List Value) (w : zW) (nx K : Nat → zL → List Value → zW → Prop) (Rt : Option Value → zW → Prop) : z_st1 (tX9_key 14) 14 lv st w nx K Rt = (z_li lv 1 (fun x => nx 15 lv (.int x :: st) w)) := id rfl
theorem sX9_key_15 (lv : zL) (st : List Value) (w : zW) (nx K : Nat → zL → List Value → zW → Prop) (Rt : Option Value → zW → Prop) : z_st1 (tX9_key 15) 15 lv st w nx K Rt = (z_li lv 2 (fun x => nx 16 lv (.int x :: st) w)) := id rfl
theorem sX9_key_16 (lv : zL) (st : List Value) (w : zW) (nx K : Nat → zL → List Value → zW → Prop) (Rt : Option Value → zW → Prop) : z_st1 (tX9_key 16) 16 lv st w nx K Rt = (z_li lv 3 (fun x => nx 17 lv (.int x :: st) w)) := id rfl
theorem sX9_key_17 (lv : zL) (st : List Value) (w : zW) (nx K : Nat → zL → List Value → zW → Prop) (Rt : Option Value → zW → Prop) : z_st1 (tX9_key 17) 17 lv st w nx K Rt = (z_1i st (fun x r => (¬ x = 0 → nx 25 lv r w) ∧ (x = 0 → nx 20 lv r w))) := id rfl
theorem sX9_key_20 (lv : zL) (st : List Value) (w : zW) (nx K : Nat → zL → List Value → zW → Prop) (Rt : Option Value → zW → Prop) : z_st1 (tX9_key 20) 20 lv st w nx K Rt = (nx 22 lv (.int (32 : Int32) :: st) w) := id rfl
theorem sX9_key_22 (lv : zL) (st : List Value) (w : zW) (nx K : Nat → zL → List Value → zW → Prop) (Rt : Option Value → zW → Prop) : z_st1 (tX9_key 22) 22 lv st w nx K Rt = (nx 37 lv st w) := id rfl
theorem sX9_key_25 (lv : zL) (st : List Value) (w : zW) (nx K : Nat → zL → List Value → zW → Prop) (Rt : Option Value → zW → Prop) : z_st1 (tX9_key 25) 25 lv st w nx K Rt = (z_li lv 3 (fun x => nx 26 lv (.int x :: st) w)) := id rfl
theorem sX9_key_26 (lv : zL) (st : List Value) (w : zW) (nx K : Nat → zL → List Value → zW → Prop) (Rt : Option Value → zW → Prop) : z_st1 (tX9_key 26) 26 lv st w nx K Rt = (nx 27 lv (.int (3 : Int32) :: st) w) := id rfl
theorem sX9_key_27 (lv : zL) (st : List Value) (w : zW) (nx K : Nat → zL → List Value → zW → Prop) (Rt : Option Value → zW → Prop) : z_st1 (tX9_key 27) 27 lv st w nx K Rt = (z_2i st (fun x y r => (¬ x = y → nx 35 lv r w) ∧ (x = y → nx 30 lv r w))) := id rfl
theorem sX9_key_30 (lv : zL) (st : List Value) (w : zW) (nx K : Nat → zL → List Value → zW → Prop) (Rt : Option Value → zW → Prop) : z_st1 (tX9_key 30) 30 lv st w nx K Rt = (nx 32 lv (.int (18 : Int32) :: st) w) := id rfl
theorem sX9_key_32 (lv : zL) (st : List Value) (w : zW) (nx K : Nat → zL → List Value → zW → Prop) (Rt : Option Value → zW → Prop) : z_st1 (tX9_key 32) 32 lv st w nx K Rt = (nx 37 lv st w) := id rfl
theorem sX9_key_35 (lv : zL) (st : List Value) (w : zW) (nx K : Nat → zL → List Value → zW → Prop) (Rt : Option Value → zW → Prop) : z_st1 (tX9_key 35) 35 lv st w nx K Rt = (nx 37 lv (.int (8 : Int32) :: st) w) := id rfl
theorem sX9_key_40 (lv : zL) (st : List Value) (w : zW) (nx K : Nat → zL → List Value → zW → Prop) (Rt : Option Value → zW → Prop) : z_st1 (tX9_key 40) 40 lv st w nx K Rt = (z_1i st (fun x r => (¬ x = 0 → nx 46 lv r w) ∧ (x = 0 → nx 43 lv r w))) := id rfl
theorem sX9_key_43 (lv : zL) (st : List Value) (w : zW) (nx K : Nat → zL → List Value → zW → Prop) (Rt : Option Value → zW → Prop) : z_st1 (tX9_key 43) 43 lv st w nx K Rt = (nx 45 lv (.int (-4 : Int32) :: st) w) := id rfl
theorem sX9_key_45 (lv : zL) (st : List Value) (w : zW) (nx K : Nat → zL → List Value → zW → Prop) (Rt : Option Value → zW → Prop) : z_st1 (tX9_key 45) 45 lv st w nx K Rt = (z_e1 st (fun x => Rt (some (.int x)) w)) := id rfl
theorem sX9_key_46 (lv : zL) (st : List Value) (w : zW) (nx K : Nat → zL → List Value → zW → Prop) (Rt : Option Value → zW → Prop) : z_st1 (tX9_key 46) 46 lv st w nx K Rt = (z_la lv 0 (fun x => nx 47 lv (.ref x :: st) w)) := id rfl
theorem sX9_key_47 (lv : zL) (st : List Value) (w : zW) (nx K : Nat → zL → List Value → zW → Prop) (Rt : Option Value → zW → Prop) : z_st1 (tX9_key 47) 47 lv st w nx K Rt = (z_1a st (fun x r => z_ob w x 10 (fun fs => z_fl fs 3 (fun u => nx 50 lv (u :: r) w)))) := id rfl
theorem sX9_key_50 (lv : zL) (st : List Value) (w : zW) (nx K : Nat → zL → List Value → zW → Prop) (Rt : Option Value → zW → Prop) : z_st1 (tX9_key 50) 50 lv st w nx K Rt = (z_1i st (fun x r => (x = 0 → nx 56 lv r w) ∧ (¬ x = 0 → nx 53 lv r w))) := id rfl
theorem sX9_key_53 (lv : zL) (st : List Value) (w : zW) (nx K : Nat → zL → List Value → zW → Prop) (Rt : Option Value → zW → Prop) : z_st1 (tX9_key 53) 53 lv st w nx K Rt = (nx 55 lv (.int (-5 : Int32) :: st) w) := id rfl
theorem sX9_key_55 (lv : zL) (st : List Value) (w : zW) (nx K : Nat → zL → List Value → zW → Prop) (Rt : Option Value → zW → Prop) : z_st1 (tX9_key 55) 55 lv st w nx K Rt = (z_e1 st (fun x => Rt (some (.int x)) w)) := id rfl
theorem sX9_key_56 (lv : zL) (st : List Value) (w : zW) (nx K : Nat → zL → List Value → zW → Prop) (Rt : Option Value → zW → Prop) : z_st1 (tX9_key 56) 56 lv st w nx K Rt = (z_la lv 0 (fun x => nx 57 lv (.ref x :: st) w)) := id rfl
theorem sX9_key_57 (lv : zL) (st : List Value) (w : zW) (nx K : Nat → zL → List Value → zW → Prop) (Rt : Option Value → zW → Prop) : z_st1 (tX9_key 57) 57 lv st w nx K Rt = (z_1a st (fun x r => z_ob w x 10 (fun fs => z_fl fs 8 (fun u => nx 60 lv (u :: r) w)))) := id rfl
theorem sX9_key_60 (lv : zL) (st : List Value) (w : zW) (nx K : Nat → zL → List Value → zW → Prop) (Rt : Option Value → zW → Prop) : z_st1 (tX9_key 60) 60 lv st w nx K Rt = (nx 62 lv (.int (8 : Int32) :: st) w) := id rfl
theorem sX9_key_62 (lv : zL) (st : List Value) (w : zW) (nx K : Nat → zL → List Value → zW → Prop) (Rt : Option Value → zW → Prop) : z_st1 (tX9_key 62) 62 lv st w nx K Rt = (z_2i st (fun x y r => (¬ x = y → nx 67 lv r w) ∧ (x = y → nx 65 lv r w))) := id rfl
theorem sX9_key_65 (lv : zL) (st : List Value) (w : zW) (nx K : Nat → zL → List Value → zW → Prop) (Rt : Option Value → zW → Prop) : z_st1 (tX9_key 65) 65 lv st w nx K Rt = (nx 66 lv (.int (-1 : Int32) :: st) w) := id rfl
theorem sX9_key_66 (lv : zL) (st : List Value) (w : zW) (nx K : Nat → zL → List Value → zW → Prop) (Rt : Option Value → zW → Prop) : z_st1 (tX9_key 66) 66 lv st w nx K Rt = (z_e1 st (fun x => Rt (some (.int x)) w)) := id rfl
theorem sX9_key_67 (lv : zL) (st : List Value) (w : zW) (nx K : Nat → zL → List Value → zW → Prop) (Rt : Option Value → zW → Prop) : z_st1 (tX9_key 67) 67 lv st w nx K Rt = (z_la lv 0 (fun x => nx 68 lv (.ref x :: st) w)) := id rfl
theorem sX9_key_68 (lv : zL) (st : List Value) (w : zW) (nx K : Nat → zL → List Value → zW → Prop) (Rt : Option Value → zW → Prop) : z_st1 (tX9_key 68) 68 lv st w nx K Rt = (z_1a st (fun x r => z_ob w x 10 (fun fs => z_fl fs 4 (fun u => nx 71 lv (u :: r) w)))) := id rfl
theorem sX9_key_71 (lv : zL) (st : List Value) (w : zW) (nx K : Nat → zL → List Value → zW → Prop) (Rt : Option Value → zW → Prop) : z_st1 (tX9_key 71) 71 lv st w nx K Rt = (z_la lv 0 (fun x => nx 72 lv (.ref x :: st) w)) := id rfl
theorem sX9_key_72 (lv : zL) (st : List Value) (w : zW) (nx K : Nat → zL → List Value → zW → Prop) (Rt : Option Value → zW → Prop) : z_st1 (tX9_key 72) 72 lv st w nx K Rt = (z_1a st (fun x r => z_ob w x 10 (fun fs => z_fl fs 8 (fun u => nx 75 lv (u :: r) w)))) := id rfl
theorem sX9_key_75 (lv : zL) (st : List Value) (w : zW) (nx K : Nat → zL → List Value → zW → Prop) (Rt : Option Value → zW → Prop) : z_st1 (tX9_key 75) 75 lv st w nx K Rt = (z_li lv 1 (fun x => nx 76 lv (.int x :: st) w)) := id rfl
theorem sX9_key_76 (lv : zL) (st : List Value) (w : zW) (nx K : Nat → zL → List Value → zW → Prop) (Rt : Option Value → zW → Prop) : z_st1 (tX9_key 76) 76 lv st w nx K Rt = (z_iia st (fun x i u r => z_ar0 w x (fun m g => vp_in i m ∧ nx 77 lv r (z_up w x (.inl (0, m, .inl (upd g i.toNatClampNeg u))))))) := id rfl
theorem sX9_key_77 (lv : zL) (st : List Value) (w : zW) (nx K : Nat → zL → List Value → zW → Prop) (Rt : Option Value → zW → Prop) : z_st1 (tX9_key 77) 77 lv st w nx K Rt = (z_la lv 0 (fun x => nx 78 lv (.ref x :: st) w)) := id rfl
theorem sX9_key_78 (lv : zL) (st : List Value) (w : zW) (nx K : Nat → zL → List Value → zW → Prop) (Rt : Option Value → zW → Prop) : z_st1 (tX9_key 78) 78 lv st w nx K Rt = (z_1a st (fun x r => z_ob w x 10 (fun fs => z_fl fs 5 (fun u => nx 81 lv (u :: r) w)))) := id rfl
theorem sX9_key_81 (lv : zL) (st : List Value) (w : zW) (nx K : Nat → zL → List Value → zW → Prop) (Rt : Option Value → zW → Prop) : z_st1 (tX9_key 81) 81 lv st w nx K Rt = (z_la lv 0 (fun x => nx 82 lv (.ref x :: st) w)) := id rfl
theorem sX9_key_82 (lv : zL) (st : List Value) (w : zW) (nx K : Nat → zL → List Value → zW → Prop) (Rt : Option Value → zW → Prop) : z_st1 (tX9_key 82) 82 lv st w nx K Rt = (z_1a st (fun x r => z_ob w x 10 (fun fs => z_fl fs 8 (fun u => nx 85 lv (u :: r) w)))) := id rfl
theorem sX9_key_85 (lv : zL) (st : List Value) (w : zW) (nx K : Nat → zL → List Value → zW → Prop) (Rt : Option Value → zW → Prop) : z_st1 (tX9_key 85) 85 lv st w nx K Rt = (z_li lv 2 (fun x => nx 86 lv (.int x :: st) w)) := id rfl
theorem sX9_key_86 (lv : zL) (st : List Value) (w : zW) (nx K : Nat → zL → List Value → zW → Prop) (Rt : Option Value → zW → Prop) : z_st1 (tX9_key 86) 86 lv st w nx K Rt = (z_iia st (fun x i u r => z_ar0 w x (fun m g => vp_in i m ∧ nx 87 lv r (z_up w x (.inl (0, m, .inl (upd g i.toNatClampNeg u))))))) := id rfl
theorem sX9_key_87 (lv : zL) (st : List Value) (w : zW) (nx K : Nat → zL → List Value → zW → Prop) (Rt : Option Value → zW → Prop) : z_st1 (tX9_key 87) 87 lv st w nx K Rt = (z_la lv 0 (fun x => nx 88 lv (.ref x :: st) w)) := id rfl
theorem sX9_key_88 (lv : zL) (st : List Value) (w : zW) (nx K : Nat → zL → List Value → zW → Prop) (Rt : Option Value → zW → Prop) : z_st1 (tX9_key 88) 88 lv st w nx K Rt = (z_1a st (fun x r => z_ob w x 10 (fun fs => z_fl fs 6 (fun u => nx 91 lv (u :: r) w)))) := id rfl
theorem sX9_key_91 (lv : zL) (st : List Value) (w : zW) (nx K : Nat → zL → List Value → zW → Prop) (Rt : Option Value → zW → Prop) : z_st1 (tX9_key 91) 91 lv st w nx K Rt = (z_la lv 0 (fun x => nx 92 lv (.ref x :: st) w)) := id rfl
theorem sX9_key_92 (lv : zL) (st : List Value) (w : zW) (nx K : Nat → zL → List Value → zW → Prop) (Rt : Option Value → zW → Prop) : z_st1 (tX9_key 92) 92 lv st w nx K Rt = (z_1a st (fun x r => z_ob w x 10 (fun fs => z_fl fs 8 (fun u => nx 95 lv (u :: r) w)))) := id rfl
theorem sX9_key_95 (lv : zL) (st : List Value) (w : zW) (nx K : Nat → zL → List Value → zW → Prop) (Rt : Option Value → zW → Prop) : z_st1 (tX9_key 95) 95 lv st w nx K Rt = (z_li lv 3 (fun x => nx 96 lv (.int x :: st) w)) := id rfl
theorem sX9_key_96 (lv : zL) (st : List Value) (w : zW) (nx K : Nat → zL → List Value → zW → Prop) (Rt : Option Value → zW → Prop) : z_st1 (tX9_key 96) 96 lv st w nx K Rt = (z_iia st (fun x i u r => z_ar0 w x (fun m g => vp_in i m ∧ nx 97 lv r (z_up w x (.inl (0, m, .inl (upd g i.toNatClampNeg u))))))) := id rfl
theorem sX9_key_97 (lv : zL) (st : List Value) (w : zW) (nx K : Nat → zL → List Value → zW → Prop) (Rt : Option Value → zW → Prop) : z_st1 (tX9_key 97) 97 lv st w nx K Rt = (z_la lv 0 (fun x => nx 98 lv (.ref x :: st) w)) := id rfl
theorem sX9_key_98 (lv : zL) (st : List Value) (w : zW) (nx K : Nat → zL → List Value → zW → Prop) (Rt : Option Value → zW → Prop) : z_st1 (tX9_key 98) 98 lv st w nx K Rt = (z_1a st (fun x r => z_ob w x 10 (fun fs => z_fl fs 7 (fun u => nx 101 lv (u :: r) w)))) := id rfl
theorem sX9_key_101 (lv : zL) (st : List Value) (w : zW) (nx K : Nat → zL → List Value → zW → Prop) (Rt : Option Value → zW → Prop) : z_st1 (tX9_key 101) 101 lv st w nx K Rt = (z_la lv 0 (fun x => nx 102 lv (.ref x :: st) w)) := id rfl
theorem sX9_key_102 (lv : zL) (st : List Value) (w : zW) (nx K : Nat → zL → List Value → zW → Prop) (Rt : Option Value → zW → Prop) : z_st1 (tX9_key 102) 102 lv st w nx K Rt = (z_1a st (fun x r => z_ob w x 10 (fun fs => z_fl fs 8 (fun u => nx 105 lv (u :: r) w)))) := id rfl
theorem sX9_key_105 (lv : zL) (st : List Value) (w : zW) (nx K : Nat → zL → List Value → zW → Prop) (Rt : Option Value → zW → Prop) : z_st1 (tX9_key 105) 105 lv st w nx K Rt = (z_li lv 4 (fun x => nx 107 lv (.int x :: st) w)) := id rfl
theorem sX9_key_107 (lv : zL) (st : List Value) (w : zW) (nx K : Nat → zL → List Value → zW → Prop) (Rt : Option Value → zW → Prop) : z_st1 (tX9_key 107) 107 lv st w nx K Rt = (z_iia st (fun x i u r => z_ar1 w x (fun m g => vp_in i m ∧ nx 108 lv r (z_up w x (.inl (1, m, .inl (upd g i.toNatClampNeg (vp_nar .boolean u)))))))) := id rfl
theorem sX9_key_108 (lv : zL) (st : List Value) (w : zW) (nx K : Nat → zL → List Value → zW → Prop) (Rt : Option Value → zW → Prop) : z_st1 (tX9_key 108) 108 lv st w nx K Rt = (z_la lv 0 (fun x => nx 109 lv (.ref x :: st) w)) := id rfl
theorem sX9_key_109 (lv : zL) (st : List Value) (w : zW) (nx K : Nat → zL → List Value → zW → Prop) (Rt : Option Value → zW → Prop) : z_st1 (tX9_key 109) 109 lv st w nx K Rt = (z_d1 st (fun x r => nx 110 lv (x :: x :: r) w)) := id rfl
theorem sX9_key_110 (lv : zL) (st : List Value) (w : zW) (nx K : Nat → zL → List Value → zW → Prop) (Rt : Option Value → zW → Prop) : z_st1 (tX9_key 110) 110 lv st w nx K Rt = (z_1a st (fun x r => z_ob w x 10 (fun fs => z_fl fs 8 (fun u => nx 113 lv (u :: r) w)))) := id rfl
theorem sX9_key_113 (lv : zL) (st : List Value) (w : zW) (nx K : Nat → zL → List Value → zW → Prop) (Rt : Option Value → zW → Prop) : z_st1 (tX9_key 113) 113 lv st w nx K Rt = (nx 114 lv (.int (1 : Int32) :: st) w) := id rfl
theorem sX9_key_114 (lv : zL) (st : List Value) (w : zW) (nx K : Nat → zL → List Value → zW → Prop) (Rt : Option Value → zW → Prop) : z_st1 (tX9_key 114) 114 lv st w nx K Rt = (z_2i st (fun x y r => nx 115 lv (.int (x + y) :: r) w)) := id rfl
theorem sX9_key_115 (lv : zL) (st : List Value) (w : zW) (nx K : Nat → zL → List Value → zW → Prop) (Rt : Option Value → zW → Prop) : z_st1 (tX9_key 115) 115 lv st w nx K Rt = (z_ia st (fun x i r => z_ob w x 10 (fun fs => 8 < fs.length ∧ nx 118 lv r (z_up w x (.inr (10, fs.set 8 (.int i))))))) := id rfl
theorem sX9_key_118 (lv : zL) (st : List Value) (w : zW) (nx K : Nat → zL → List Value → zW → Prop) (Rt : Option Value → zW → Prop) : z_st1 (tX9_key 118) 118 lv st w nx K Rt = (z_la lv 0 (fun x => nx 119 lv (.ref x :: st) w)) := id rfl
theorem sX9_key_119 (lv : zL) (st : List Value) (w : zW) (nx K : Nat → zL → List Value → zW → Prop) (Rt : Option Value → zW → Prop) : z_st1 (tX9_key 119) 119 lv st w nx K Rt = (z_1a st (fun x r => z_ob w x 10 (fun fs => z_fl fs 8 (fun u => nx 122 lv (u :: r) w)))) := id rfl
theorem sX9_key_122 (lv : zL) (st : List Value) (w : zW) (nx K : Nat → zL → List Value → zW → Prop) (Rt : Option Value → zW → Prop) : z_st1 (tX9_key 122) 122 lv st w nx K Rt = (z_e1 st (fun x => Rt (some (.int x)) w)) := id rfl
theorem sX9_key_37 (lv : zL) (st : List Value) (w : zW) (nx K : Nat → zL → List Value → zW → Prop) (Rt : Option Value → zW → Prop) : z_st1 (tX9_key 37) 37 lv st w nx K Rt = K 37 lv st w := id rfl
theorem dX9_key_37 : decode cX9_key 37 = .ok (.invokestatic 88, 3) := by decide +kernel

def tmX9_record (pc : Nat) : zI := match pc with
  | 0 => (1, 0, 0, 1, 0)
  | 1 => (6, 0, 0, 2, 0)
  | 2 => (47, 10, 0, 5, 0)
  | 5 => (1, 0, 0, 6, 0)
  | 6 => (46, 10, 11, 9, 0)
  | 9 => (6, 0, 0, 12, 400)
  | 12 => (41, 17, 0, 15, 0)
  | 15 => (6, 0, 0, 16, (-1))
  | 16 => (53, 0, 0, 17, 0)
  | 17 => (1, 0, 0, 18, 0)
  | 18 => (29, 0, 0, 19, 0)
  | 19 => (46, 10, 11, 22, 0)
  | 22 => (6, 0, 0, 23, 1)
  | 23 => (8, 0, 0, 24, 0)
  | 24 => (47, 10, 11, 27, 0)
  | 27 => (1, 0, 0, 28, 0)
  | 28 => (46, 10, 11, 31, 0)
  | 31 => (53, 0, 0, 32, 0)
  | _ => (99, 0, 0, 0, 0)
def tX9_record (pc : Nat) : zI := if pc < 32 then tmX9_record pc else (99, 0, 0, 0, 0)
theorem tkX9_record : z_tab RX9 wsX9_record 1 (some .int) cX9_record 32 tX9_record := z_tab_of (tm := tmX9_record) (by decide +kernel)
theorem sX9_record_0 (lv : zL) (st : List Value) (w : zW) (nx K : Nat → zL → List Value → zW → Prop) (Rt : Option Value → zW → Prop) : z_st1 (tX9_record 0) 0 lv st w nx K Rt = (z_la lv 0 (fun x => nx 1 lv (.ref x :: st) w)) := id rfl
theorem sX9_record_1 (lv : zL) (st : List Value) (w : zW) (nx K : Nat → zL → List Value → zW → Prop) (Rt : Option Value → zW → Prop) : z_st1 (tX9_record 1) 1 lv st w nx K Rt = (nx 2 lv (.int (0 : Int32) :: st) w) := id rfl
theorem sX9_record_2 (lv : zL) (st : List Value) (w : zW) (nx K : Nat → zL → List Value → zW → Prop) (Rt : Option Value → zW → Prop) : z_st1 (tX9_record 2) 2 lv st w nx K Rt = (z_ia st (fun x i r => z_ob w x 10 (fun fs => 0 < fs.length ∧ nx 5 lv r (z_up w x (.inr (10, fs.set 0 (.int i))))))) := id rfl
theorem sX9_record_5 (lv : zL) (st : List Value) (w : zW) (nx K : Nat → zL → List Value → zW → Prop) (Rt : Option Value → zW → Prop) : z_st1 (tX9_record 5) 5 lv st w nx K Rt = (z_la lv 0 (fun x => nx 6 lv (.ref x :: st) w)) := id rfl
theorem sX9_record_6 (lv : zL) (st : List Value) (w : zW) (nx K : Nat → zL → List Value → zW → Prop) (Rt : Option Value → zW → Prop) : z_st1 (tX9_record 6) 6 lv st w nx K Rt = (z_1a st (fun x r => z_ob w x 10 (fun fs => z_fl fs 11 (fun u => nx 9 lv (u :: r) w)))) := id rfl
theorem sX9_record_9 (lv : zL) (st : List Value) (w : zW) (nx K : Nat → zL → List Value → zW → Prop) (Rt : Option Value → zW → Prop) : z_st1 (tX9_record 9) 9 lv st w nx K Rt = (nx 12 lv (.int (400 : Int32) :: st) w) := id rfl
theorem sX9_record_12 (lv : zL) (st : List Value) (w : zW) (nx K : Nat → zL → List Value → zW → Prop) (Rt : Option Value → zW → Prop) : z_st1 (tX9_record 12) 12 lv st w nx K Rt = (z_2i st (fun x y r => (¬ x = y → nx 17 lv r w) ∧ (x = y → nx 15 lv r w))) := id rfl
theorem sX9_record_15 (lv : zL) (st : List Value) (w : zW) (nx K : Nat → zL → List Value → zW → Prop) (Rt : Option Value → zW → Prop) : z_st1 (tX9_record 15) 15 lv st w nx K Rt = (nx 16 lv (.int (-1 : Int32) :: st) w) := id rfl
theorem sX9_record_16 (lv : zL) (st : List Value) (w : zW) (nx K : Nat → zL → List Value → zW → Prop) (Rt : Option Value → zW → Prop) : z_st1 (tX9_record 16) 16 lv st w nx K Rt = (z_e1 st (fun x => Rt (some (.int x)) w)) := id rfl
theorem sX9_record_17 (lv : zL) (st : List Value) (w : zW) (nx K : Nat → zL → List Value → zW → Prop) (Rt : Option Value → zW → Prop) : z_st1 (tX9_record 17) 17 lv st w nx K Rt = (z_la lv 0 (fun x => nx 18 lv (.ref x :: st) w)) := id rfl
theorem sX9_record_18 (lv : zL) (st : List Value) (w : zW) (nx K : Nat → zL → List Value → zW → Prop) (Rt : Option Value → zW → Prop) : z_st1 (tX9_record 18) 18 lv st w nx K Rt = (z_d1 st (fun x r => nx 19 lv (x :: x :: r) w)) := id rfl
theorem sX9_record_19 (lv : zL) (st : List Value) (w : zW) (nx K : Nat → zL → List Value → zW → Prop) (Rt : Option Value → zW → Prop) : z_st1 (tX9_record 19) 19 lv st w nx K Rt = (z_1a st (fun x r => z_ob w x 10 (fun fs => z_fl fs 11 (fun u => nx 22 lv (u :: r) w)))) := id rfl
theorem sX9_record_22 (lv : zL) (st : List Value) (w : zW) (nx K : Nat → zL → List Value → zW → Prop) (Rt : Option Value → zW → Prop) : z_st1 (tX9_record 22) 22 lv st w nx K Rt = (nx 23 lv (.int (1 : Int32) :: st) w) := id rfl
theorem sX9_record_23 (lv : zL) (st : List Value) (w : zW) (nx K : Nat → zL → List Value → zW → Prop) (Rt : Option Value → zW → Prop) : z_st1 (tX9_record 23) 23 lv st w nx K Rt = (z_2i st (fun x y r => nx 24 lv (.int (x + y) :: r) w)) := id rfl
theorem sX9_record_24 (lv : zL) (st : List Value) (w : zW) (nx K : Nat → zL → List Value → zW → Prop) (Rt : Option Value → zW → Prop) : z_st1 (tX9_record 24) 24 lv st w nx K Rt = (z_ia st (fun x i r => z_ob w x 10 (fun fs => 11 < fs.length ∧ nx 27 lv r (z_up w x (.inr (10, fs.set 11 (.int i))))))) := id rfl
theorem sX9_record_27 (lv : zL) (st : List Value) (w : zW) (nx K : Nat → zL → List Value → zW → Prop) (Rt : Option Value → zW → Prop) : z_st1 (tX9_record 27) 27 lv st w nx K Rt = (z_la lv 0 (fun x => nx 28 lv (.ref x :: st) w)) := id rfl
theorem sX9_record_28 (lv : zL) (st : List Value) (w : zW) (nx K : Nat → zL → List Value → zW → Prop) (Rt : Option Value → zW → Prop) : z_st1 (tX9_record 28) 28 lv st w nx K Rt = (z_1a st (fun x r => z_ob w x 10 (fun fs => z_fl fs 11 (fun u => nx 31 lv (u :: r) w)))) := id rfl
theorem sX9_record_31 (lv : zL) (st : List Value) (w : zW) (nx K : Nat → zL → List Value → zW → Prop) (Rt : Option Value → zW → Prop) : z_st1 (tX9_record 31) 31 lv st w nx K Rt = (z_e1 st (fun x => Rt (some (.int x)) w)) := id rfl

def tmX9_isRecord (pc : Nat) : zI := match pc with
  | 0 => (0, 1, 0, 1, 0)
  | 1 => (6, 0, 0, 2, 1)
  | 2 => (42, 17, 0, 5, 0)
  | 5 => (0, 1, 0, 6, 0)
  | 6 => (1, 0, 0, 7, 0)
  | 7 => (46, 10, 11, 10, 0)
  | 10 => (44, 17, 0, 13, 0)
  | 13 => (6, 0, 0, 14, 1)
  | 14 => (33, 18, 0, 17, 0)
  | 17 => (6, 0, 0, 18, 0)
  | 18 => (58, 0, 0, 19, 0)
  | _ => (99, 0, 0, 0, 0)
def tX9_isRecord (pc : Nat) : zI := if pc < 19 then tmX9_isRecord pc else (99, 0, 0, 0, 0)
theorem tkX9_isRecord : z_tab RX9 wsX9_isRecord 2 (some .boolean) cX9_isRecord 19 tX9_isRecord := z_tab_of (tm := tmX9_isRecord) (by decide +kernel)
theorem sX9_isRecord_0 (lv : zL) (st : List Value) (w : zW) (nx K : Nat → zL → List Value → zW → Prop) (Rt : Option Value → zW → Prop) : z_st1 (tX9_isRecord 0) 0 lv st w nx K Rt = (z_li lv 1 (fun x => nx 1 lv (.int x :: st) w)) := id rfl
theorem sX9_isRecord_1 (lv : zL) (st : List Value) (w : zW) (nx K : Nat → zL → List Value → zW → Prop) (Rt : Option Value → zW → Prop) : z_st1 (tX9_isRecord 1) 1 lv st w nx K Rt = (nx 2 lv (.int (1 : Int32) :: st) w) := id rfl
theorem sX9_isRecord_2 (lv : zL) (st : List Value) (w : zW) (nx K : Nat → zL → List Value → zW → Prop) (Rt : Option Value → zW → Prop) : z_st1 (tX9_isRecord 2) 2 lv st w nx K Rt = (z_2i st (fun x y r => (x < y → nx 17 lv r w) ∧ (¬ x < y → nx 5 lv r w))) := id rfl
theorem sX9_isRecord_5 (lv : zL) (st : List Value) (w : zW) (nx K : Nat → zL → List Value → zW → Prop) (Rt : Option Value → zW → Prop) : z_st1 (tX9_isRecord 5) 5 lv st w nx K Rt = (z_li lv 1 (fun x => nx 6 lv (.int x :: st) w)) := id rfl
theorem sX9_isRecord_6 (lv : zL) (st : List Value) (w : zW) (nx K : Nat → zL → List Value → zW → Prop) (Rt : Option Value → zW → Prop) : z_st1 (tX9_isRecord 6) 6 lv st w nx K Rt = (z_la lv 0 (fun x => nx 7 lv (.ref x :: st) w)) := id rfl
theorem sX9_isRecord_7 (lv : zL) (st : List Value) (w : zW) (nx K : Nat → zL → List Value → zW → Prop) (Rt : Option Value → zW → Prop) : z_st1 (tX9_isRecord 7) 7 lv st w nx K Rt = (z_1a st (fun x r => z_ob w x 10 (fun fs => z_fl fs 11 (fun u => nx 10 lv (u :: r) w)))) := id rfl
theorem sX9_isRecord_10 (lv : zL) (st : List Value) (w : zW) (nx K : Nat → zL → List Value → zW → Prop) (Rt : Option Value → zW → Prop) : z_st1 (tX9_isRecord 10) 10 lv st w nx K Rt = (z_2i st (fun x y r => (y < x → nx 17 lv r w) ∧ (¬ y < x → nx 13 lv r w))) := id rfl
theorem sX9_isRecord_13 (lv : zL) (st : List Value) (w : zW) (nx K : Nat → zL → List Value → zW → Prop) (Rt : Option Value → zW → Prop) : z_st1 (tX9_isRecord 13) 13 lv st w nx K Rt = (nx 14 lv (.int (1 : Int32) :: st) w) := id rfl
theorem sX9_isRecord_14 (lv : zL) (st : List Value) (w : zW) (nx K : Nat → zL → List Value → zW → Prop) (Rt : Option Value → zW → Prop) : z_st1 (tX9_isRecord 14) 14 lv st w nx K Rt = (nx 18 lv st w) := id rfl
theorem sX9_isRecord_17 (lv : zL) (st : List Value) (w : zW) (nx K : Nat → zL → List Value → zW → Prop) (Rt : Option Value → zW → Prop) : z_st1 (tX9_isRecord 17) 17 lv st w nx K Rt = (nx 18 lv (.int (0 : Int32) :: st) w) := id rfl
theorem sX9_isRecord_18 (lv : zL) (st : List Value) (w : zW) (nx K : Nat → zL → List Value → zW → Prop) (Rt : Option Value → zW → Prop) : z_st1 (tX9_isRecord 18) 18 lv st w nx K Rt = (z_e1 st (fun x => (x = 0 ∨ x = 1) ∧ Rt (some (.int x)) w)) := id rfl

def tmX9_octet (pc : Nat) : zI := match pc with
  | 0 => (1, 0, 0, 1, 0)
  | 1 => (6, 0, 0, 2, 0)
  | 2 => (47, 10, 0, 5, 0)
  | 5 => (1, 0, 0, 6, 0)
  | 6 => (0, 1, 0, 7, 0)
  | 10 => (35, 16, 0, 13, 0)
  | 13 => (6, 0, 0, 15, (-2))
  | 15 => (53, 0, 0, 16, 0)
  | 16 => (0, 2, 0, 17, 0)
  | 17 => (36, 26, 0, 20, 0)
  | 20 => (0, 2, 0, 21, 0)
  | 21 => (6, 0, 0, 23, 32)
  | 23 => (42, 29, 0, 26, 0)
  | 26 => (6, 0, 0, 28, (-4))
  | 28 => (53, 0, 0, 29, 0)
  | 29 => (1, 0, 0, 30, 0)
  | 30 => (46, 10, 9, 33, 0)
  | 33 => (6, 0, 0, 35, 32)
  | 35 => (0, 1, 0, 36, 0)
  | 36 => (6, 0, 0, 37, 1)
  | 37 => (9, 0, 0, 38, 0)
  | 38 => (10, 0, 0, 39, 0)
  | 39 => (0, 2, 0, 40, 0)
  | 40 => (8, 0, 0, 41, 0)
  | 41 => (0, 3, 0, 42, 0)
  | 42 => (6, 0, 0, 45, 255)
  | 45 => (11, 0, 0, 46, 0)
  | 46 => (49, 0, 0, 47, 0)
  | 47 => (0, 2, 0, 48, 0)
  | 48 => (1, 0, 0, 49, 0)
  | 49 => (46, 10, 10, 52, 0)
  | 52 => (0, 1, 0, 53, 0)
  | 53 => (6, 0, 0, 54, 1)
  | 54 => (9, 0, 0, 55, 0)
  | 55 => (48, 0, 0, 56, 0)
  | 56 => (42, 70, 0, 59, 0)
  | 59 => (1, 0, 0, 60, 0)
  | 60 => (46, 10, 10, 63, 0)
  | 63 => (0, 1, 0, 64, 0)
  | 64 => (6, 0, 0, 65, 1)
  | 65 => (9, 0, 0, 66, 0)
  | 66 => (0, 2, 0, 67, 0)
  | 67 => (6, 0, 0, 68, 1)
  | 68 => (8, 0, 0, 69, 0)
  | 69 => (49, 0, 0, 70, 0)
  | 70 => (1, 0, 0, 71, 0)
  | 71 => (46, 10, 10, 74, 0)
  | 74 => (0, 1, 0, 75, 0)
  | 75 => (6, 0, 0, 76, 1)
  | 76 => (9, 0, 0, 77, 0)
  | 77 => (48, 0, 0, 78, 0)
  | 78 => (53, 0, 0, 79, 0)
  | _ => (99, 0, 0, 0, 0)
def tX9_octet (pc : Nat) : zI := if pc < 79 then tmX9_octet pc else (99, 0, 0, 0, 0)
theorem tkX9_octet : z_tab RX9 wsX9_octet 4 (some .int) cX9_octet 79 tX9_octet := z_tab_of (tm := tmX9_octet) (by decide +kernel)
theorem sX9_octet_0 (lv : zL) (st : List Value) (w : zW) (nx K : Nat → zL → List Value → zW → Prop) (Rt : Option Value → zW → Prop) : z_st1 (tX9_octet 0) 0 lv st w nx K Rt = (z_la lv 0 (fun x => nx 1 lv (.ref x :: st) w)) := id rfl
theorem sX9_octet_1 (lv : zL) (st : List Value) (w : zW) (nx K : Nat → zL → List Value → zW → Prop) (Rt : Option Value → zW → Prop) : z_st1 (tX9_octet 1) 1 lv st w nx K Rt = (nx 2 lv (.int (0 : Int32) :: st) w) := id rfl
theorem sX9_octet_2 (lv : zL) (st : List Value) (w : zW) (nx K : Nat → zL → List Value → zW → Prop) (Rt : Option Value → zW → Prop) : z_st1 (tX9_octet 2) 2 lv st w nx K Rt = (z_ia st (fun x i r => z_ob w x 10 (fun fs => 0 < fs.length ∧ nx 5 lv r (z_up w x (.inr (10, fs.set 0 (.int i))))))) := id rfl
theorem sX9_octet_5 (lv : zL) (st : List Value) (w : zW) (nx K : Nat → zL → List Value → zW → Prop) (Rt : Option Value → zW → Prop) : z_st1 (tX9_octet 5) 5 lv st w nx K Rt = (z_la lv 0 (fun x => nx 6 lv (.ref x :: st) w)) := id rfl
theorem sX9_octet_6 (lv : zL) (st : List Value) (w : zW) (nx K : Nat → zL → List Value → zW → Prop) (Rt : Option Value → zW → Prop) : z_st1 (tX9_octet 6) 6 lv st w nx K Rt = (z_li lv 1 (fun x => nx 7 lv (.int x :: st) w)) := id rfl
theorem sX9_octet_10 (lv : zL) (st : List Value) (w : zW) (nx K : Nat → zL → List Value → zW → Prop) (Rt : Option Value → zW → Prop) : z_st1 (tX9_octet 10) 10 lv st w nx K Rt = (z_1i st (fun x r => (¬ x = 0 → nx 16 lv r w) ∧ (x = 0 → nx 13 lv r w))) := id rfl
theorem sX9_octet_13 (lv : zL) (st : List Value) (w : zW) (nx K : Nat → zL → List Value → zW → Prop) (Rt : Option Value → zW → Prop) : z_st1 (tX9_octet 13) 13 lv st w nx K Rt = (nx 15 lv (.int (-2 : Int32) :: st) w) := id rfl
theorem sX9_octet_15 (lv : zL) (st : List Value) (w : zW) (nx K : Nat → zL → List Value → zW → Prop) (Rt : Option Value → zW → Prop) : z_st1 (tX9_octet 15) 15 lv st w nx K Rt = (z_e1 st (fun x => Rt (some (.int x)) w)) := id rfl
theorem sX9_octet_16 (lv : zL) (st : List Value) (w : zW) (nx K : Nat → zL → List Value → zW → Prop) (Rt : Option Value → zW → Prop) : z_st1 (tX9_octet 16) 16 lv st w nx K Rt = (z_li lv 2 (fun x => nx 17 lv (.int x :: st) w)) := id rfl
theorem sX9_octet_17 (lv : zL) (st : List Value) (w : zW) (nx K : Nat → zL → List Value → zW → Prop) (Rt : Option Value → zW → Prop) : z_st1 (tX9_octet 17) 17 lv st w nx K Rt = (z_1i st (fun x r => (x < 0 → nx 26 lv r w) ∧ (¬ x < 0 → nx 20 lv r w))) := id rfl
theorem sX9_octet_20 (lv : zL) (st : List Value) (w : zW) (nx K : Nat → zL → List Value → zW → Prop) (Rt : Option Value → zW → Prop) : z_st1 (tX9_octet 20) 20 lv st w nx K Rt = (z_li lv 2 (fun x => nx 21 lv (.int x :: st) w)) := id rfl
theorem sX9_octet_21 (lv : zL) (st : List Value) (w : zW) (nx K : Nat → zL → List Value → zW → Prop) (Rt : Option Value → zW → Prop) : z_st1 (tX9_octet 21) 21 lv st w nx K Rt = (nx 23 lv (.int (32 : Int32) :: st) w) := id rfl
theorem sX9_octet_23 (lv : zL) (st : List Value) (w : zW) (nx K : Nat → zL → List Value → zW → Prop) (Rt : Option Value → zW → Prop) : z_st1 (tX9_octet 23) 23 lv st w nx K Rt = (z_2i st (fun x y r => (x < y → nx 29 lv r w) ∧ (¬ x < y → nx 26 lv r w))) := id rfl
theorem sX9_octet_26 (lv : zL) (st : List Value) (w : zW) (nx K : Nat → zL → List Value → zW → Prop) (Rt : Option Value → zW → Prop) : z_st1 (tX9_octet 26) 26 lv st w nx K Rt = (nx 28 lv (.int (-4 : Int32) :: st) w) := id rfl
theorem sX9_octet_28 (lv : zL) (st : List Value) (w : zW) (nx K : Nat → zL → List Value → zW → Prop) (Rt : Option Value → zW → Prop) : z_st1 (tX9_octet 28) 28 lv st w nx K Rt = (z_e1 st (fun x => Rt (some (.int x)) w)) := id rfl
theorem sX9_octet_29 (lv : zL) (st : List Value) (w : zW) (nx K : Nat → zL → List Value → zW → Prop) (Rt : Option Value → zW → Prop) : z_st1 (tX9_octet 29) 29 lv st w nx K Rt = (z_la lv 0 (fun x => nx 30 lv (.ref x :: st) w)) := id rfl
theorem sX9_octet_30 (lv : zL) (st : List Value) (w : zW) (nx K : Nat → zL → List Value → zW → Prop) (Rt : Option Value → zW → Prop) : z_st1 (tX9_octet 30) 30 lv st w nx K Rt = (z_1a st (fun x r => z_ob w x 10 (fun fs => z_fl fs 9 (fun u => nx 33 lv (u :: r) w)))) := id rfl
theorem sX9_octet_33 (lv : zL) (st : List Value) (w : zW) (nx K : Nat → zL → List Value → zW → Prop) (Rt : Option Value → zW → Prop) : z_st1 (tX9_octet 33) 33 lv st w nx K Rt = (nx 35 lv (.int (32 : Int32) :: st) w) := id rfl
theorem sX9_octet_35 (lv : zL) (st : List Value) (w : zW) (nx K : Nat → zL → List Value → zW → Prop) (Rt : Option Value → zW → Prop) : z_st1 (tX9_octet 35) 35 lv st w nx K Rt = (z_li lv 1 (fun x => nx 36 lv (.int x :: st) w)) := id rfl
theorem sX9_octet_36 (lv : zL) (st : List Value) (w : zW) (nx K : Nat → zL → List Value → zW → Prop) (Rt : Option Value → zW → Prop) : z_st1 (tX9_octet 36) 36 lv st w nx K Rt = (nx 37 lv (.int (1 : Int32) :: st) w) := id rfl
theorem sX9_octet_37 (lv : zL) (st : List Value) (w : zW) (nx K : Nat → zL → List Value → zW → Prop) (Rt : Option Value → zW → Prop) : z_st1 (tX9_octet 37) 37 lv st w nx K Rt = (z_2i st (fun x y r => nx 38 lv (.int (x - y) :: r) w)) := id rfl
theorem sX9_octet_38 (lv : zL) (st : List Value) (w : zW) (nx K : Nat → zL → List Value → zW → Prop) (Rt : Option Value → zW → Prop) : z_st1 (tX9_octet 38) 38 lv st w nx K Rt = (z_2i st (fun x y r => nx 39 lv (.int (x * y) :: r) w)) := id rfl
theorem sX9_octet_39 (lv : zL) (st : List Value) (w : zW) (nx K : Nat → zL → List Value → zW → Prop) (Rt : Option Value → zW → Prop) : z_st1 (tX9_octet 39) 39 lv st w nx K Rt = (z_li lv 2 (fun x => nx 40 lv (.int x :: st) w)) := id rfl
theorem sX9_octet_40 (lv : zL) (st : List Value) (w : zW) (nx K : Nat → zL → List Value → zW → Prop) (Rt : Option Value → zW → Prop) : z_st1 (tX9_octet 40) 40 lv st w nx K Rt = (z_2i st (fun x y r => nx 41 lv (.int (x + y) :: r) w)) := id rfl
theorem sX9_octet_41 (lv : zL) (st : List Value) (w : zW) (nx K : Nat → zL → List Value → zW → Prop) (Rt : Option Value → zW → Prop) : z_st1 (tX9_octet 41) 41 lv st w nx K Rt = (z_li lv 3 (fun x => nx 42 lv (.int x :: st) w)) := id rfl
theorem sX9_octet_42 (lv : zL) (st : List Value) (w : zW) (nx K : Nat → zL → List Value → zW → Prop) (Rt : Option Value → zW → Prop) : z_st1 (tX9_octet 42) 42 lv st w nx K Rt = (nx 45 lv (.int (255 : Int32) :: st) w) := id rfl
theorem sX9_octet_45 (lv : zL) (st : List Value) (w : zW) (nx K : Nat → zL → List Value → zW → Prop) (Rt : Option Value → zW → Prop) : z_st1 (tX9_octet 45) 45 lv st w nx K Rt = (z_2i st (fun x y r => nx 46 lv (.int (x &&& y) :: r) w)) := id rfl
theorem sX9_octet_46 (lv : zL) (st : List Value) (w : zW) (nx K : Nat → zL → List Value → zW → Prop) (Rt : Option Value → zW → Prop) : z_st1 (tX9_octet 46) 46 lv st w nx K Rt = (z_iia st (fun x i u r => z_ar0 w x (fun m g => vp_in i m ∧ nx 47 lv r (z_up w x (.inl (0, m, .inl (upd g i.toNatClampNeg u))))))) := id rfl
theorem sX9_octet_47 (lv : zL) (st : List Value) (w : zW) (nx K : Nat → zL → List Value → zW → Prop) (Rt : Option Value → zW → Prop) : z_st1 (tX9_octet 47) 47 lv st w nx K Rt = (z_li lv 2 (fun x => nx 48 lv (.int x :: st) w)) := id rfl
theorem sX9_octet_48 (lv : zL) (st : List Value) (w : zW) (nx K : Nat → zL → List Value → zW → Prop) (Rt : Option Value → zW → Prop) : z_st1 (tX9_octet 48) 48 lv st w nx K Rt = (z_la lv 0 (fun x => nx 49 lv (.ref x :: st) w)) := id rfl
theorem sX9_octet_49 (lv : zL) (st : List Value) (w : zW) (nx K : Nat → zL → List Value → zW → Prop) (Rt : Option Value → zW → Prop) : z_st1 (tX9_octet 49) 49 lv st w nx K Rt = (z_1a st (fun x r => z_ob w x 10 (fun fs => z_fl fs 10 (fun u => nx 52 lv (u :: r) w)))) := id rfl
theorem sX9_octet_52 (lv : zL) (st : List Value) (w : zW) (nx K : Nat → zL → List Value → zW → Prop) (Rt : Option Value → zW → Prop) : z_st1 (tX9_octet 52) 52 lv st w nx K Rt = (z_li lv 1 (fun x => nx 53 lv (.int x :: st) w)) := id rfl
theorem sX9_octet_53 (lv : zL) (st : List Value) (w : zW) (nx K : Nat → zL → List Value → zW → Prop) (Rt : Option Value → zW → Prop) : z_st1 (tX9_octet 53) 53 lv st w nx K Rt = (nx 54 lv (.int (1 : Int32) :: st) w) := id rfl
theorem sX9_octet_54 (lv : zL) (st : List Value) (w : zW) (nx K : Nat → zL → List Value → zW → Prop) (Rt : Option Value → zW → Prop) : z_st1 (tX9_octet 54) 54 lv st w nx K Rt = (z_2i st (fun x y r => nx 55 lv (.int (x - y) :: r) w)) := id rfl
theorem sX9_octet_55 (lv : zL) (st : List Value) (w : zW) (nx K : Nat → zL → List Value → zW → Prop) (Rt : Option Value → zW → Prop) : z_st1 (tX9_octet 55) 55 lv st w nx K Rt = (z_ia st (fun x i r => z_ar0 w x (fun m g => vp_in i m ∧ nx 56 lv (.int (g i.toNatClampNeg) :: r) w))) := id rfl
theorem sX9_octet_56 (lv : zL) (st : List Value) (w : zW) (nx K : Nat → zL → List Value → zW → Prop) (Rt : Option Value → zW → Prop) : z_st1 (tX9_octet 56) 56 lv st w nx K Rt = (z_2i st (fun x y r => (x < y → nx 70 lv r w) ∧ (¬ x < y → nx 59 lv r w))) := id rfl
theorem sX9_octet_59 (lv : zL) (st : List Value) (w : zW) (nx K : Nat → zL → List Value → zW → Prop) (Rt : Option Value → zW → Prop) : z_st1 (tX9_octet 59) 59 lv st w nx K Rt = (z_la lv 0 (fun x => nx 60 lv (.ref x :: st) w)) := id rfl
theorem sX9_octet_60 (lv : zL) (st : List Value) (w : zW) (nx K : Nat → zL → List Value → zW → Prop) (Rt : Option Value → zW → Prop) : z_st1 (tX9_octet 60) 60 lv st w nx K Rt = (z_1a st (fun x r => z_ob w x 10 (fun fs => z_fl fs 10 (fun u => nx 63 lv (u :: r) w)))) := id rfl
theorem sX9_octet_63 (lv : zL) (st : List Value) (w : zW) (nx K : Nat → zL → List Value → zW → Prop) (Rt : Option Value → zW → Prop) : z_st1 (tX9_octet 63) 63 lv st w nx K Rt = (z_li lv 1 (fun x => nx 64 lv (.int x :: st) w)) := id rfl
theorem sX9_octet_64 (lv : zL) (st : List Value) (w : zW) (nx K : Nat → zL → List Value → zW → Prop) (Rt : Option Value → zW → Prop) : z_st1 (tX9_octet 64) 64 lv st w nx K Rt = (nx 65 lv (.int (1 : Int32) :: st) w) := id rfl
theorem sX9_octet_65 (lv : zL) (st : List Value) (w : zW) (nx K : Nat → zL → List Value → zW → Prop) (Rt : Option Value → zW → Prop) : z_st1 (tX9_octet 65) 65 lv st w nx K Rt = (z_2i st (fun x y r => nx 66 lv (.int (x - y) :: r) w)) := id rfl
theorem sX9_octet_66 (lv : zL) (st : List Value) (w : zW) (nx K : Nat → zL → List Value → zW → Prop) (Rt : Option Value → zW → Prop) : z_st1 (tX9_octet 66) 66 lv st w nx K Rt = (z_li lv 2 (fun x => nx 67 lv (.int x :: st) w)) := id rfl
theorem sX9_octet_67 (lv : zL) (st : List Value) (w : zW) (nx K : Nat → zL → List Value → zW → Prop) (Rt : Option Value → zW → Prop) : z_st1 (tX9_octet 67) 67 lv st w nx K Rt = (nx 68 lv (.int (1 : Int32) :: st) w) := id rfl
theorem sX9_octet_68 (lv : zL) (st : List Value) (w : zW) (nx K : Nat → zL → List Value → zW → Prop) (Rt : Option Value → zW → Prop) : z_st1 (tX9_octet 68) 68 lv st w nx K Rt = (z_2i st (fun x y r => nx 69 lv (.int (x + y) :: r) w)) := id rfl
theorem sX9_octet_69 (lv : zL) (st : List Value) (w : zW) (nx K : Nat → zL → List Value → zW → Prop) (Rt : Option Value → zW → Prop) : z_st1 (tX9_octet 69) 69 lv st w nx K Rt = (z_iia st (fun x i u r => z_ar0 w x (fun m g => vp_in i m ∧ nx 70 lv r (z_up w x (.inl (0, m, .inl (upd g i.toNatClampNeg u))))))) := id rfl
theorem sX9_octet_70 (lv : zL) (st : List Value) (w : zW) (nx K : Nat → zL → List Value → zW → Prop) (Rt : Option Value → zW → Prop) : z_st1 (tX9_octet 70) 70 lv st w nx K Rt = (z_la lv 0 (fun x => nx 71 lv (.ref x :: st) w)) := id rfl
theorem sX9_octet_71 (lv : zL) (st : List Value) (w : zW) (nx K : Nat → zL → List Value → zW → Prop) (Rt : Option Value → zW → Prop) : z_st1 (tX9_octet 71) 71 lv st w nx K Rt = (z_1a st (fun x r => z_ob w x 10 (fun fs => z_fl fs 10 (fun u => nx 74 lv (u :: r) w)))) := id rfl
theorem sX9_octet_74 (lv : zL) (st : List Value) (w : zW) (nx K : Nat → zL → List Value → zW → Prop) (Rt : Option Value → zW → Prop) : z_st1 (tX9_octet 74) 74 lv st w nx K Rt = (z_li lv 1 (fun x => nx 75 lv (.int x :: st) w)) := id rfl
theorem sX9_octet_75 (lv : zL) (st : List Value) (w : zW) (nx K : Nat → zL → List Value → zW → Prop) (Rt : Option Value → zW → Prop) : z_st1 (tX9_octet 75) 75 lv st w nx K Rt = (nx 76 lv (.int (1 : Int32) :: st) w) := id rfl
theorem sX9_octet_76 (lv : zL) (st : List Value) (w : zW) (nx K : Nat → zL → List Value → zW → Prop) (Rt : Option Value → zW → Prop) : z_st1 (tX9_octet 76) 76 lv st w nx K Rt = (z_2i st (fun x y r => nx 77 lv (.int (x - y) :: r) w)) := id rfl
theorem sX9_octet_77 (lv : zL) (st : List Value) (w : zW) (nx K : Nat → zL → List Value → zW → Prop) (Rt : Option Value → zW → Prop) : z_st1 (tX9_octet 77) 77 lv st w nx K Rt = (z_ia st (fun x i r => z_ar0 w x (fun m g => vp_in i m ∧ nx 78 lv (.int (g i.toNatClampNeg) :: r) w))) := id rfl
theorem sX9_octet_78 (lv : zL) (st : List Value) (w : zW) (nx K : Nat → zL → List Value → zW → Prop) (Rt : Option Value → zW → Prop) : z_st1 (tX9_octet 78) 78 lv st w nx K Rt = (z_e1 st (fun x => Rt (some (.int x)) w)) := id rfl
theorem sX9_octet_7 (lv : zL) (st : List Value) (w : zW) (nx K : Nat → zL → List Value → zW → Prop) (Rt : Option Value → zW → Prop) : z_st1 (tX9_octet 7) 7 lv st w nx K Rt = K 7 lv st w := id rfl
theorem dX9_octet_7 : decode cX9_octet 7 = .ok (.invokevirtual 101, 3) := by decide +kernel

def tmX9_include (pc : Nat) : zI := match pc with
  | 0 => (1, 0, 0, 1, 0)
  | 1 => (6, 0, 0, 2, 0)
  | 2 => (47, 10, 0, 5, 0)
  | 5 => (0, 1, 0, 6, 0)
  | 6 => (36, 35, 0, 9, 0)
  | 9 => (0, 1, 0, 10, 0)
  | 10 => (6, 0, 0, 12, 32)
  | 12 => (43, 35, 0, 15, 0)
  | 15 => (0, 2, 0, 16, 0)
  | 16 => (36, 35, 0, 19, 0)
  | 19 => (0, 2, 0, 20, 0)
  | 20 => (6, 0, 0, 21, 4)
  | 21 => (44, 35, 0, 24, 0)
  | 24 => (0, 3, 0, 25, 0)
  | 25 => (36, 35, 0, 28, 0)
  | 28 => (0, 3, 0, 29, 0)
  | 29 => (6, 0, 0, 32, 255)
  | 32 => (45, 38, 0, 35, 0)
  | 35 => (6, 0, 0, 37, (-4))
  | 37 => (53, 0, 0, 38, 0)
  | 38 => (1, 0, 0, 39, 0)
  | 39 => (0, 1, 0, 40, 0)
  | 40 => (47, 10, 12, 43, 0)
  | 43 => (1, 0, 0, 44, 0)
  | 44 => (0, 2, 0, 45, 0)
  | 45 => (47, 10, 13, 48, 0)
  | 48 => (1, 0, 0, 49, 0)
  | 49 => (0, 3, 0, 50, 0)
  | 50 => (47, 10, 14, 53, 0)
  | 53 => (6, 0, 0, 54, 1)
  | 54 => (53, 0, 0, 55, 0)
  | _ => (99, 0, 0, 0, 0)
def tX9_include (pc : Nat) : zI := if pc < 55 then tmX9_include pc else (99, 0, 0, 0, 0)
theorem tkX9_include : z_tab RX9 wsX9_include 4 (some .int) cX9_include 55 tX9_include := z_tab_of (tm := tmX9_include) (by decide +kernel)
theorem sX9_include_0 (lv : zL) (st : List Value) (w : zW) (nx K : Nat → zL → List Value → zW → Prop) (Rt : Option Value → zW → Prop) : z_st1 (tX9_include 0) 0 lv st w nx K Rt = (z_la lv 0 (fun x => nx 1 lv (.ref x :: st) w)) := id rfl
theorem sX9_include_1 (lv : zL) (st : List Value) (w : zW) (nx K : Nat → zL → List Value → zW → Prop) (Rt : Option Value → zW → Prop) : z_st1 (tX9_include 1) 1 lv st w nx K Rt = (nx 2 lv (.int (0 : Int32) :: st) w) := id rfl
theorem sX9_include_2 (lv : zL) (st : List Value) (w : zW) (nx K : Nat → zL → List Value → zW → Prop) (Rt : Option Value → zW → Prop) : z_st1 (tX9_include 2) 2 lv st w nx K Rt = (z_ia st (fun x i r => z_ob w x 10 (fun fs => 0 < fs.length ∧ nx 5 lv r (z_up w x (.inr (10, fs.set 0 (.int i))))))) := id rfl
theorem sX9_include_5 (lv : zL) (st : List Value) (w : zW) (nx K : Nat → zL → List Value → zW → Prop) (Rt : Option Value → zW → Prop) : z_st1 (tX9_include 5) 5 lv st w nx K Rt = (z_li lv 1 (fun x => nx 6 lv (.int x :: st) w)) := id rfl
theorem sX9_include_6 (lv : zL) (st : List Value) (w : zW) (nx K : Nat → zL → List Value → zW → Prop) (Rt : Option Value → zW → Prop) : z_st1 (tX9_include 6) 6 lv st w nx K Rt = (z_1i st (fun x r => (x < 0 → nx 35 lv r w) ∧ (¬ x < 0 → nx 9 lv r w))) := id rfl
theorem sX9_include_9 (lv : zL) (st : List Value) (w : zW) (nx K : Nat → zL → List Value → zW → Prop) (Rt : Option Value → zW → Prop) : z_st1 (tX9_include 9) 9 lv st w nx K Rt = (z_li lv 1 (fun x => nx 10 lv (.int x :: st) w)) := id rfl
theorem sX9_include_10 (lv : zL) (st : List Value) (w : zW) (nx K : Nat → zL → List Value → zW → Prop) (Rt : Option Value → zW → Prop) : z_st1 (tX9_include 10) 10 lv st w nx K Rt = (nx 12 lv (.int (32 : Int32) :: st) w) := id rfl
theorem sX9_include_12 (lv : zL) (st : List Value) (w : zW) (nx K : Nat → zL → List Value → zW → Prop) (Rt : Option Value → zW → Prop) : z_st1 (tX9_include 12) 12 lv st w nx K Rt = (z_2i st (fun x y r => (y ≤ x → nx 35 lv r w) ∧ (¬ y ≤ x → nx 15 lv r w))) := id rfl
theorem sX9_include_15 (lv : zL) (st : List Value) (w : zW) (nx K : Nat → zL → List Value → zW → Prop) (Rt : Option Value → zW → Prop) : z_st1 (tX9_include 15) 15 lv st w nx K Rt = (z_li lv 2 (fun x => nx 16 lv (.int x :: st) w)) := id rfl
theorem sX9_include_16 (lv : zL) (st : List Value) (w : zW) (nx K : Nat → zL → List Value → zW → Prop) (Rt : Option Value → zW → Prop) : z_st1 (tX9_include 16) 16 lv st w nx K Rt = (z_1i st (fun x r => (x < 0 → nx 35 lv r w) ∧ (¬ x < 0 → nx 19 lv r w))) := id rfl
theorem sX9_include_19 (lv : zL) (st : List Value) (w : zW) (nx K : Nat → zL → List Value → zW → Prop) (Rt : Option Value → zW → Prop) : z_st1 (tX9_include 19) 19 lv st w nx K Rt = (z_li lv 2 (fun x => nx 20 lv (.int x :: st) w)) := id rfl
theorem sX9_include_20 (lv : zL) (st : List Value) (w : zW) (nx K : Nat → zL → List Value → zW → Prop) (Rt : Option Value → zW → Prop) : z_st1 (tX9_include 20) 20 lv st w nx K Rt = (nx 21 lv (.int (4 : Int32) :: st) w) := id rfl
theorem sX9_include_21 (lv : zL) (st : List Value) (w : zW) (nx K : Nat → zL → List Value → zW → Prop) (Rt : Option Value → zW → Prop) : z_st1 (tX9_include 21) 21 lv st w nx K Rt = (z_2i st (fun x y r => (y < x → nx 35 lv r w) ∧ (¬ y < x → nx 24 lv r w))) := id rfl
theorem sX9_include_24 (lv : zL) (st : List Value) (w : zW) (nx K : Nat → zL → List Value → zW → Prop) (Rt : Option Value → zW → Prop) : z_st1 (tX9_include 24) 24 lv st w nx K Rt = (z_li lv 3 (fun x => nx 25 lv (.int x :: st) w)) := id rfl
theorem sX9_include_25 (lv : zL) (st : List Value) (w : zW) (nx K : Nat → zL → List Value → zW → Prop) (Rt : Option Value → zW → Prop) : z_st1 (tX9_include 25) 25 lv st w nx K Rt = (z_1i st (fun x r => (x < 0 → nx 35 lv r w) ∧ (¬ x < 0 → nx 28 lv r w))) := id rfl
theorem sX9_include_28 (lv : zL) (st : List Value) (w : zW) (nx K : Nat → zL → List Value → zW → Prop) (Rt : Option Value → zW → Prop) : z_st1 (tX9_include 28) 28 lv st w nx K Rt = (z_li lv 3 (fun x => nx 29 lv (.int x :: st) w)) := id rfl
theorem sX9_include_29 (lv : zL) (st : List Value) (w : zW) (nx K : Nat → zL → List Value → zW → Prop) (Rt : Option Value → zW → Prop) : z_st1 (tX9_include 29) 29 lv st w nx K Rt = (nx 32 lv (.int (255 : Int32) :: st) w) := id rfl
theorem sX9_include_32 (lv : zL) (st : List Value) (w : zW) (nx K : Nat → zL → List Value → zW → Prop) (Rt : Option Value → zW → Prop) : z_st1 (tX9_include 32) 32 lv st w nx K Rt = (z_2i st (fun x y r => (x ≤ y → nx 38 lv r w) ∧ (¬ x ≤ y → nx 35 lv r w))) := id rfl
theorem sX9_include_35 (lv : zL) (st : List Value) (w : zW) (nx K : Nat → zL → List Value → zW → Prop) (Rt : Option Value → zW → Prop) : z_st1 (tX9_include 35) 35 lv st w nx K Rt = (nx 37 lv (.int (-4 : Int32) :: st) w) := id rfl
theorem sX9_include_37 (lv : zL) (st : List Value) (w : zW) (nx K : Nat → zL → List Value → zW → Prop) (Rt : Option Value → zW → Prop) : z_st1 (tX9_include 37) 37 lv st w nx K Rt = (z_e1 st (fun x => Rt (some (.int x)) w)) := id rfl
theorem sX9_include_38 (lv : zL) (st : List Value) (w : zW) (nx K : Nat → zL → List Value → zW → Prop) (Rt : Option Value → zW → Prop) : z_st1 (tX9_include 38) 38 lv st w nx K Rt = (z_la lv 0 (fun x => nx 39 lv (.ref x :: st) w)) := id rfl
theorem sX9_include_39 (lv : zL) (st : List Value) (w : zW) (nx K : Nat → zL → List Value → zW → Prop) (Rt : Option Value → zW → Prop) : z_st1 (tX9_include 39) 39 lv st w nx K Rt = (z_li lv 1 (fun x => nx 40 lv (.int x :: st) w)) := id rfl
theorem sX9_include_40 (lv : zL) (st : List Value) (w : zW) (nx K : Nat → zL → List Value → zW → Prop) (Rt : Option Value → zW → Prop) : z_st1 (tX9_include 40) 40 lv st w nx K Rt = (z_ia st (fun x i r => z_ob w x 10 (fun fs => 12 < fs.length ∧ nx 43 lv r (z_up w x (.inr (10, fs.set 12 (.int i))))))) := id rfl
theorem sX9_include_43 (lv : zL) (st : List Value) (w : zW) (nx K : Nat → zL → List Value → zW → Prop) (Rt : Option Value → zW → Prop) : z_st1 (tX9_include 43) 43 lv st w nx K Rt = (z_la lv 0 (fun x => nx 44 lv (.ref x :: st) w)) := id rfl
theorem sX9_include_44 (lv : zL) (st : List Value) (w : zW) (nx K : Nat → zL → List Value → zW → Prop) (Rt : Option Value → zW → Prop) : z_st1 (tX9_include 44) 44 lv st w nx K Rt = (z_li lv 2 (fun x => nx 45 lv (.int x :: st) w)) := id rfl
theorem sX9_include_45 (lv : zL) (st : List Value) (w : zW) (nx K : Nat → zL → List Value → zW → Prop) (Rt : Option Value → zW → Prop) : z_st1 (tX9_include 45) 45 lv st w nx K Rt = (z_ia st (fun x i r => z_ob w x 10 (fun fs => 13 < fs.length ∧ nx 48 lv r (z_up w x (.inr (10, fs.set 13 (.int i))))))) := id rfl
theorem sX9_include_48 (lv : zL) (st : List Value) (w : zW) (nx K : Nat → zL → List Value → zW → Prop) (Rt : Option Value → zW → Prop) : z_st1 (tX9_include 48) 48 lv st w nx K Rt = (z_la lv 0 (fun x => nx 49 lv (.ref x :: st) w)) := id rfl
theorem sX9_include_49 (lv : zL) (st : List Value) (w : zW) (nx K : Nat → zL → List Value → zW → Prop) (Rt : Option Value → zW → Prop) : z_st1 (tX9_include 49) 49 lv st w nx K Rt = (z_li lv 3 (fun x => nx 50 lv (.int x :: st) w)) := id rfl
theorem sX9_include_50 (lv : zL) (st : List Value) (w : zW) (nx K : Nat → zL → List Value → zW → Prop) (Rt : Option Value → zW → Prop) : z_st1 (tX9_include 50) 50 lv st w nx K Rt = (z_ia st (fun x i r => z_ob w x 10 (fun fs => 14 < fs.length ∧ nx 53 lv r (z_up w x (.inr (10, fs.set 14 (.int i))))))) := id rfl
theorem sX9_include_53 (lv : zL) (st : List Value) (w : zW) (nx K : Nat → zL → List Value → zW → Prop) (Rt : Option Value → zW → Prop) : z_st1 (tX9_include 53) 53 lv st w nx K Rt = (nx 54 lv (.int (1 : Int32) :: st) w) := id rfl
theorem sX9_include_54 (lv : zL) (st : List Value) (w : zW) (nx K : Nat → zL → List Value → zW → Prop) (Rt : Option Value → zW → Prop) : z_st1 (tX9_include 54) 54 lv st w nx K Rt = (z_e1 st (fun x => Rt (some (.int x)) w)) := id rfl

def tmX9_sum (pc : Nat) : zI := match pc with
  | 0 => (1, 0, 0, 1, 0)
  | 1 => (6, 0, 0, 2, 0)
  | 2 => (47, 10, 0, 5, 0)
  | 5 => (0, 1, 0, 6, 0)
  | 6 => (0, 2, 0, 7, 0)
  | 7 => (6, 0, 0, 9, 8)
  | 12 => (35, 18, 0, 15, 0)
  | 15 => (6, 0, 0, 17, (-4))
  | 17 => (53, 0, 0, 18, 0)
  | 18 => (1, 0, 0, 19, 0)
  | 19 => (46, 10, 20, 22, 0)
  | 22 => (6, 0, 0, 23, 4)
  | 23 => (41, 28, 0, 26, 0)
  | 26 => (6, 0, 0, 27, (-1))
  | 27 => (53, 0, 0, 28, 0)
  | 28 => (1, 0, 0, 29, 0)
  | 29 => (46, 10, 15, 32, 0)
  | 32 => (1, 0, 0, 33, 0)
  | 33 => (46, 10, 20, 36, 0)
  | 36 => (0, 1, 0, 37, 0)
  | 37 => (49, 0, 0, 38, 0)
  | 38 => (1, 0, 0, 39, 0)
  | 39 => (46, 10, 16, 42, 0)
  | 42 => (1, 0, 0, 43, 0)
  | 43 => (46, 10, 20, 46, 0)
  | 46 => (0, 2, 0, 47, 0)
  | 47 => (49, 0, 0, 48, 0)
  | 48 => (1, 0, 0, 49, 0)
  | 49 => (29, 0, 0, 50, 0)
  | 50 => (46, 10, 20, 53, 0)
  | 53 => (6, 0, 0, 54, 1)
  | 54 => (8, 0, 0, 55, 0)
  | 55 => (47, 10, 20, 58, 0)
  | 58 => (1, 0, 0, 59, 0)
  | 59 => (46, 10, 20, 62, 0)
  | 62 => (53, 0, 0, 63, 0)
  | _ => (99, 0, 0, 0, 0)
def tX9_sum (pc : Nat) : zI := if pc < 63 then tmX9_sum pc else (99, 0, 0, 0, 0)
theorem tkX9_sum : z_tab RX9 wsX9_sum 3 (some .int) cX9_sum 63 tX9_sum := z_tab_of (tm := tmX9_sum) (by decide +kernel)
theorem sX9_sum_0 (lv : zL) (st : List Value) (w : zW) (nx K : Nat → zL → List Value → zW → Prop) (Rt : Option Value → zW → Prop) : z_st1 (tX9_sum 0) 0 lv st w nx K Rt = (z_la lv 0 (fun x => nx 1 lv (.ref x :: st) w)) := id rfl
theorem sX9_sum_1 (lv : zL) (st : List Value) (w : zW) (nx K : Nat → zL → List Value → zW → Prop) (Rt : Option Value → zW → Prop) : z_st1 (tX9_sum 1) 1 lv st w nx K Rt = (nx 2 lv (.int (0 : Int32) :: st) w) := id rfl
theorem sX9_sum_2 (lv : zL) (st : List Value) (w : zW) (nx K : Nat → zL → List Value → zW → Prop) (Rt : Option Value → zW → Prop) : z_st1 (tX9_sum 2) 2 lv st w nx K Rt = (z_ia st (fun x i r => z_ob w x 10 (fun fs => 0 < fs.length ∧ nx 5 lv r (z_up w x (.inr (10, fs.set 0 (.int i))))))) := id rfl
theorem sX9_sum_5 (lv : zL) (st : List Value) (w : zW) (nx K : Nat → zL → List Value → zW → Prop) (Rt : Option Value → zW → Prop) : z_st1 (tX9_sum 5) 5 lv st w nx K Rt = (z_li lv 1 (fun x => nx 6 lv (.int x :: st) w)) := id rfl
theorem sX9_sum_6 (lv : zL) (st : List Value) (w : zW) (nx K : Nat → zL → List Value → zW → Prop) (Rt : Option Value → zW → Prop) : z_st1 (tX9_sum 6) 6 lv st w nx K Rt = (z_li lv 2 (fun x => nx 7 lv (.int x :: st) w)) := id rfl
theorem sX9_sum_7 (lv : zL) (st : List Value) (w : zW) (nx K : Nat → zL → List Value → zW → Prop) (Rt : Option Value → zW → Prop) : z_st1 (tX9_sum 7) 7 lv st w nx K Rt = (nx 9 lv (.int (8 : Int32) :: st) w) := id rfl
theorem sX9_sum_12 (lv : zL) (st : List Value) (w : zW) (nx K : Nat → zL → List Value → zW → Prop) (Rt : Option Value → zW → Prop) : z_st1 (tX9_sum 12) 12 lv st w nx K Rt = (z_1i st (fun x r => (¬ x = 0 → nx 18 lv r w) ∧ (x = 0 → nx 15 lv r w))) := id rfl
theorem sX9_sum_15 (lv : zL) (st : List Value) (w : zW) (nx K : Nat → zL → List Value → zW → Prop) (Rt : Option Value → zW → Prop) : z_st1 (tX9_sum 15) 15 lv st w nx K Rt = (nx 17 lv (.int (-4 : Int32) :: st) w) := id rfl
theorem sX9_sum_17 (lv : zL) (st : List Value) (w : zW) (nx K : Nat → zL → List Value → zW → Prop) (Rt : Option Value → zW → Prop) : z_st1 (tX9_sum 17) 17 lv st w nx K Rt = (z_e1 st (fun x => Rt (some (.int x)) w)) := id rfl
theorem sX9_sum_18 (lv : zL) (st : List Value) (w : zW) (nx K : Nat → zL → List Value → zW → Prop) (Rt : Option Value → zW → Prop) : z_st1 (tX9_sum 18) 18 lv st w nx K Rt = (z_la lv 0 (fun x => nx 19 lv (.ref x :: st) w)) := id rfl
theorem sX9_sum_19 (lv : zL) (st : List Value) (w : zW) (nx K : Nat → zL → List Value → zW → Prop) (Rt : Option Value → zW → Prop) : z_st1 (tX9_sum 19) 19 lv st w nx K Rt = (z_1a st (fun x r => z_ob w x 10 (fun fs => z_fl fs 20 (fun u => nx 22 lv (u :: r) w)))) := id rfl
theorem sX9_sum_22 (lv : zL) (st : List Value) (w : zW) (nx K : Nat → zL → List Value → zW → Prop) (Rt : Option Value → zW → Prop) : z_st1 (tX9_sum 22) 22 lv st w nx K Rt = (nx 23 lv (.int (4 : Int32) :: st) w) := id rfl
theorem sX9_sum_23 (lv : zL) (st : List Value) (w : zW) (nx K : Nat → zL → List Value → zW → Prop) (Rt : Option Value → zW → Prop) : z_st1 (tX9_sum 23) 23 lv st w nx K Rt = (z_2i st (fun x y r => (¬ x = y → nx 28 lv r w) ∧ (x = y → nx 26 lv r w))) := id rfl
theorem sX9_sum_26 (lv : zL) (st : List Value) (w : zW) (nx K : Nat → zL → List Value → zW → Prop) (Rt : Option Value → zW → Prop) : z_st1 (tX9_sum 26) 26 lv st w nx K Rt = (nx 27 lv (.int (-1 : Int32) :: st) w) := id rfl
theorem sX9_sum_27 (lv : zL) (st : List Value) (w : zW) (nx K : Nat → zL → List Value → zW → Prop) (Rt : Option Value → zW → Prop) : z_st1 (tX9_sum 27) 27 lv st w nx K Rt = (z_e1 st (fun x => Rt (some (.int x)) w)) := id rfl
theorem sX9_sum_28 (lv : zL) (st : List Value) (w : zW) (nx K : Nat → zL → List Value → zW → Prop) (Rt : Option Value → zW → Prop) : z_st1 (tX9_sum 28) 28 lv st w nx K Rt = (z_la lv 0 (fun x => nx 29 lv (.ref x :: st) w)) := id rfl
theorem sX9_sum_29 (lv : zL) (st : List Value) (w : zW) (nx K : Nat → zL → List Value → zW → Prop) (Rt : Option Value → zW → Prop) : z_st1 (tX9_sum 29) 29 lv st w nx K Rt = (z_1a st (fun x r => z_ob w x 10 (fun fs => z_fl fs 15 (fun u => nx 32 lv (u :: r) w)))) := id rfl
theorem sX9_sum_32 (lv : zL) (st : List Value) (w : zW) (nx K : Nat → zL → List Value → zW → Prop) (Rt : Option Value → zW → Prop) : z_st1 (tX9_sum 32) 32 lv st w nx K Rt = (z_la lv 0 (fun x => nx 33 lv (.ref x :: st) w)) := id rfl
theorem sX9_sum_33 (lv : zL) (st : List Value) (w : zW) (nx K : Nat → zL → List Value → zW → Prop) (Rt : Option Value → zW → Prop) : z_st1 (tX9_sum 33) 33 lv st w nx K Rt = (z_1a st (fun x r => z_ob w x 10 (fun fs => z_fl fs 20 (fun u => nx 36 lv (u :: r) w)))) := id rfl
theorem sX9_sum_36 (lv : zL) (st : List Value) (w : zW) (nx K : Nat → zL → List Value → zW → Prop) (Rt : Option Value → zW → Prop) : z_st1 (tX9_sum 36) 36 lv st w nx K Rt = (z_li lv 1 (fun x => nx 37 lv (.int x :: st) w)) := id rfl
theorem sX9_sum_37 (lv : zL) (st : List Value) (w : zW) (nx K : Nat → zL → List Value → zW → Prop) (Rt : Option Value → zW → Prop) : z_st1 (tX9_sum 37) 37 lv st w nx K Rt = (z_iia st (fun x i u r => z_ar0 w x (fun m g => vp_in i m ∧ nx 38 lv r (z_up w x (.inl (0, m, .inl (upd g i.toNatClampNeg u))))))) := id rfl
theorem sX9_sum_38 (lv : zL) (st : List Value) (w : zW) (nx K : Nat → zL → List Value → zW → Prop) (Rt : Option Value → zW → Prop) : z_st1 (tX9_sum 38) 38 lv st w nx K Rt = (z_la lv 0 (fun x => nx 39 lv (.ref x :: st) w)) := id rfl
theorem sX9_sum_39 (lv : zL) (st : List Value) (w : zW) (nx K : Nat → zL → List Value → zW → Prop) (Rt : Option Value → zW → Prop) : z_st1 (tX9_sum 39) 39 lv st w nx K Rt = (z_1a st (fun x r => z_ob w x 10 (fun fs => z_fl fs 16 (fun u => nx 42 lv (u :: r) w)))) := id rfl
theorem sX9_sum_42 (lv : zL) (st : List Value) (w : zW) (nx K : Nat → zL → List Value → zW → Prop) (Rt : Option Value → zW → Prop) : z_st1 (tX9_sum 42) 42 lv st w nx K Rt = (z_la lv 0 (fun x => nx 43 lv (.ref x :: st) w)) := id rfl
theorem sX9_sum_43 (lv : zL) (st : List Value) (w : zW) (nx K : Nat → zL → List Value → zW → Prop) (Rt : Option Value → zW → Prop) : z_st1 (tX9_sum 43) 43 lv st w nx K Rt = (z_1a st (fun x r => z_ob w x 10 (fun fs => z_fl fs 20 (fun u => nx 46 lv (u :: r) w)))) := id rfl
theorem sX9_sum_46 (lv : zL) (st : List Value) (w : zW) (nx K : Nat → zL → List Value → zW → Prop) (Rt : Option Value → zW → Prop) : z_st1 (tX9_sum 46) 46 lv st w nx K Rt = (z_li lv 2 (fun x => nx 47 lv (.int x :: st) w)) := id rfl
theorem sX9_sum_47 (lv : zL) (st : List Value) (w : zW) (nx K : Nat → zL → List Value → zW → Prop) (Rt : Option Value → zW → Prop) : z_st1 (tX9_sum 47) 47 lv st w nx K Rt = (z_iia st (fun x i u r => z_ar0 w x (fun m g => vp_in i m ∧ nx 48 lv r (z_up w x (.inl (0, m, .inl (upd g i.toNatClampNeg u))))))) := id rfl
theorem sX9_sum_48 (lv : zL) (st : List Value) (w : zW) (nx K : Nat → zL → List Value → zW → Prop) (Rt : Option Value → zW → Prop) : z_st1 (tX9_sum 48) 48 lv st w nx K Rt = (z_la lv 0 (fun x => nx 49 lv (.ref x :: st) w)) := id rfl
theorem sX9_sum_49 (lv : zL) (st : List Value) (w : zW) (nx K : Nat → zL → List Value → zW → Prop) (Rt : Option Value → zW → Prop) : z_st1 (tX9_sum 49) 49 lv st w nx K Rt = (z_d1 st (fun x r => nx 50 lv (x :: x :: r) w)) := id rfl
theorem sX9_sum_50 (lv : zL) (st : List Value) (w : zW) (nx K : Nat → zL → List Value → zW → Prop) (Rt : Option Value → zW → Prop) : z_st1 (tX9_sum 50) 50 lv st w nx K Rt = (z_1a st (fun x r => z_ob w x 10 (fun fs => z_fl fs 20 (fun u => nx 53 lv (u :: r) w)))) := id rfl
theorem sX9_sum_53 (lv : zL) (st : List Value) (w : zW) (nx K : Nat → zL → List Value → zW → Prop) (Rt : Option Value → zW → Prop) : z_st1 (tX9_sum 53) 53 lv st w nx K Rt = (nx 54 lv (.int (1 : Int32) :: st) w) := id rfl
theorem sX9_sum_54 (lv : zL) (st : List Value) (w : zW) (nx K : Nat → zL → List Value → zW → Prop) (Rt : Option Value → zW → Prop) : z_st1 (tX9_sum 54) 54 lv st w nx K Rt = (z_2i st (fun x y r => nx 55 lv (.int (x + y) :: r) w)) := id rfl
theorem sX9_sum_55 (lv : zL) (st : List Value) (w : zW) (nx K : Nat → zL → List Value → zW → Prop) (Rt : Option Value → zW → Prop) : z_st1 (tX9_sum 55) 55 lv st w nx K Rt = (z_ia st (fun x i r => z_ob w x 10 (fun fs => 20 < fs.length ∧ nx 58 lv r (z_up w x (.inr (10, fs.set 20 (.int i))))))) := id rfl
theorem sX9_sum_58 (lv : zL) (st : List Value) (w : zW) (nx K : Nat → zL → List Value → zW → Prop) (Rt : Option Value → zW → Prop) : z_st1 (tX9_sum 58) 58 lv st w nx K Rt = (z_la lv 0 (fun x => nx 59 lv (.ref x :: st) w)) := id rfl
theorem sX9_sum_59 (lv : zL) (st : List Value) (w : zW) (nx K : Nat → zL → List Value → zW → Prop) (Rt : Option Value → zW → Prop) : z_st1 (tX9_sum 59) 59 lv st w nx K Rt = (z_1a st (fun x r => z_ob w x 10 (fun fs => z_fl fs 20 (fun u => nx 62 lv (u :: r) w)))) := id rfl
theorem sX9_sum_62 (lv : zL) (st : List Value) (w : zW) (nx K : Nat → zL → List Value → zW → Prop) (Rt : Option Value → zW → Prop) : z_st1 (tX9_sum 62) 62 lv st w nx K Rt = (z_e1 st (fun x => Rt (some (.int x)) w)) := id rfl
theorem sX9_sum_9 (lv : zL) (st : List Value) (w : zW) (nx K : Nat → zL → List Value → zW → Prop) (Rt : Option Value → zW → Prop) : z_st1 (tX9_sum 9) 9 lv st w nx K Rt = K 9 lv st w := id rfl
theorem dX9_sum_9 : decode cX9_sum 9 = .ok (.invokestatic 88, 3) := by decide +kernel

def tmX9_exit (pc : Nat) : zI := match pc with
  | 0 => (1, 0, 0, 1, 0)
  | 1 => (6, 0, 0, 2, 0)
  | 2 => (47, 10, 0, 5, 0)
  | 5 => (0, 1, 0, 6, 0)
  | 6 => (36, 34, 0, 9, 0)
  | 9 => (0, 1, 0, 10, 0)
  | 10 => (6, 0, 0, 11, 1)
  | 11 => (44, 34, 0, 14, 0)
  | 14 => (0, 2, 0, 15, 0)
  | 15 => (36, 34, 0, 18, 0)
  | 18 => (0, 2, 0, 19, 0)
  | 19 => (6, 0, 0, 20, 3)
  | 20 => (44, 34, 0, 23, 0)
  | 23 => (0, 3, 0, 24, 0)
  | 24 => (36, 34, 0, 27, 0)
  | 27 => (0, 3, 0, 28, 0)
  | 28 => (6, 0, 0, 31, 1000)
  | 31 => (45, 37, 0, 34, 0)
  | 34 => (6, 0, 0, 36, (-4))
  | 36 => (53, 0, 0, 37, 0)
  | 37 => (1, 0, 0, 38, 0)
  | 38 => (46, 10, 17, 41, 0)
  | 41 => (0, 1, 0, 42, 0)
  | 42 => (0, 2, 0, 43, 0)
  | 43 => (49, 0, 0, 44, 0)
  | 44 => (1, 0, 0, 45, 0)
  | 45 => (46, 10, 18, 48, 0)
  | 48 => (0, 1, 0, 49, 0)
  | 49 => (0, 3, 0, 50, 0)
  | 50 => (49, 0, 0, 51, 0)
  | 51 => (6, 0, 0, 52, 1)
  | 52 => (53, 0, 0, 53, 0)
  | _ => (99, 0, 0, 0, 0)
def tX9_exit (pc : Nat) : zI := if pc < 53 then tmX9_exit pc else (99, 0, 0, 0, 0)
theorem tkX9_exit : z_tab RX9 wsX9_exit 4 (some .int) cX9_exit 53 tX9_exit := z_tab_of (tm := tmX9_exit) (by decide +kernel)
theorem sX9_exit_0 (lv : zL) (st : List Value) (w : zW) (nx K : Nat → zL → List Value → zW → Prop) (Rt : Option Value → zW → Prop) : z_st1 (tX9_exit 0) 0 lv st w nx K Rt = (z_la lv 0 (fun x => nx 1 lv (.ref x :: st) w)) := id rfl
theorem sX9_exit_1 (lv : zL) (st : List Value) (w : zW) (nx K : Nat → zL → List Value → zW → Prop) (Rt : Option Value → zW → Prop) : z_st1 (tX9_exit 1) 1 lv st w nx K Rt = (nx 2 lv (.int (0 : Int32) :: st) w) := id rfl
theorem sX9_exit_2 (lv : zL) (st : List Value) (w : zW) (nx K : Nat → zL → List Value → zW → Prop) (Rt : Option Value → zW → Prop) : z_st1 (tX9_exit 2) 2 lv st w nx K Rt = (z_ia st (fun x i r => z_ob w x 10 (fun fs => 0 < fs.length ∧ nx 5 lv r (z_up w x (.inr (10, fs.set 0 (.int i))))))) := id rfl
theorem sX9_exit_5 (lv : zL) (st : List Value) (w : zW) (nx K : Nat → zL → List Value → zW → Prop) (Rt : Option Value → zW → Prop) : z_st1 (tX9_exit 5) 5 lv st w nx K Rt = (z_li lv 1 (fun x => nx 6 lv (.int x :: st) w)) := id rfl
theorem sX9_exit_6 (lv : zL) (st : List Value) (w : zW) (nx K : Nat → zL → List Value → zW → Prop) (Rt : Option Value → zW → Prop) : z_st1 (tX9_exit 6) 6 lv st w nx K Rt = (z_1i st (fun x r => (x < 0 → nx 34 lv r w) ∧ (¬ x < 0 → nx 9 lv r w))) := id rfl
theorem sX9_exit_9 (lv : zL) (st : List Value) (w : zW) (nx K : Nat → zL → List Value → zW → Prop) (Rt : Option Value → zW → Prop) : z_st1 (tX9_exit 9) 9 lv st w nx K Rt = (z_li lv 1 (fun x => nx 10 lv (.int x :: st) w)) := id rfl
theorem sX9_exit_10 (lv : zL) (st : List Value) (w : zW) (nx K : Nat → zL → List Value → zW → Prop) (Rt : Option Value → zW → Prop) : z_st1 (tX9_exit 10) 10 lv st w nx K Rt = (nx 11 lv (.int (1 : Int32) :: st) w) := id rfl
theorem sX9_exit_11 (lv : zL) (st : List Value) (w : zW) (nx K : Nat → zL → List Value → zW → Prop) (Rt : Option Value → zW → Prop) : z_st1 (tX9_exit 11) 11 lv st w nx K Rt = (z_2i st (fun x y r => (y < x → nx 34 lv r w) ∧ (¬ y < x → nx 14 lv r w))) := id rfl
theorem sX9_exit_14 (lv : zL) (st : List Value) (w : zW) (nx K : Nat → zL → List Value → zW → Prop) (Rt : Option Value → zW → Prop) : z_st1 (tX9_exit 14) 14 lv st w nx K Rt = (z_li lv 2 (fun x => nx 15 lv (.int x :: st) w)) := id rfl
theorem sX9_exit_15 (lv : zL) (st : List Value) (w : zW) (nx K : Nat → zL → List Value → zW → Prop) (Rt : Option Value → zW → Prop) : z_st1 (tX9_exit 15) 15 lv st w nx K Rt = (z_1i st (fun x r => (x < 0 → nx 34 lv r w) ∧ (¬ x < 0 → nx 18 lv r w))) := id rfl
theorem sX9_exit_18 (lv : zL) (st : List Value) (w : zW) (nx K : Nat → zL → List Value → zW → Prop) (Rt : Option Value → zW → Prop) : z_st1 (tX9_exit 18) 18 lv st w nx K Rt = (z_li lv 2 (fun x => nx 19 lv (.int x :: st) w)) := id rfl
theorem sX9_exit_19 (lv : zL) (st : List Value) (w : zW) (nx K : Nat → zL → List Value → zW → Prop) (Rt : Option Value → zW → Prop) : z_st1 (tX9_exit 19) 19 lv st w nx K Rt = (nx 20 lv (.int (3 : Int32) :: st) w) := id rfl
theorem sX9_exit_20 (lv : zL) (st : List Value) (w : zW) (nx K : Nat → zL → List Value → zW → Prop) (Rt : Option Value → zW → Prop) : z_st1 (tX9_exit 20) 20 lv st w nx K Rt = (z_2i st (fun x y r => (y < x → nx 34 lv r w) ∧ (¬ y < x → nx 23 lv r w))) := id rfl
theorem sX9_exit_23 (lv : zL) (st : List Value) (w : zW) (nx K : Nat → zL → List Value → zW → Prop) (Rt : Option Value → zW → Prop) : z_st1 (tX9_exit 23) 23 lv st w nx K Rt = (z_li lv 3 (fun x => nx 24 lv (.int x :: st) w)) := id rfl
theorem sX9_exit_24 (lv : zL) (st : List Value) (w : zW) (nx K : Nat → zL → List Value → zW → Prop) (Rt : Option Value → zW → Prop) : z_st1 (tX9_exit 24) 24 lv st w nx K Rt = (z_1i st (fun x r => (x < 0 → nx 34 lv r w) ∧ (¬ x < 0 → nx 27 lv r w))) := id rfl
theorem sX9_exit_27 (lv : zL) (st : List Value) (w : zW) (nx K : Nat → zL → List Value → zW → Prop) (Rt : Option Value → zW → Prop) : z_st1 (tX9_exit 27) 27 lv st w nx K Rt = (z_li lv 3 (fun x => nx 28 lv (.int x :: st) w)) := id rfl
theorem sX9_exit_28 (lv : zL) (st : List Value) (w : zW) (nx K : Nat → zL → List Value → zW → Prop) (Rt : Option Value → zW → Prop) : z_st1 (tX9_exit 28) 28 lv st w nx K Rt = (nx 31 lv (.int (1000 : Int32) :: st) w) := id rfl
theorem sX9_exit_31 (lv : zL) (st : List Value) (w : zW) (nx K : Nat → zL → List Value → zW → Prop) (Rt : Option Value → zW → Prop) : z_st1 (tX9_exit 31) 31 lv st w nx K Rt = (z_2i st (fun x y r => (x ≤ y → nx 37 lv r w) ∧ (¬ x ≤ y → nx 34 lv r w))) := id rfl
theorem sX9_exit_34 (lv : zL) (st : List Value) (w : zW) (nx K : Nat → zL → List Value → zW → Prop) (Rt : Option Value → zW → Prop) : z_st1 (tX9_exit 34) 34 lv st w nx K Rt = (nx 36 lv (.int (-4 : Int32) :: st) w) := id rfl
theorem sX9_exit_36 (lv : zL) (st : List Value) (w : zW) (nx K : Nat → zL → List Value → zW → Prop) (Rt : Option Value → zW → Prop) : z_st1 (tX9_exit 36) 36 lv st w nx K Rt = (z_e1 st (fun x => Rt (some (.int x)) w)) := id rfl
theorem sX9_exit_37 (lv : zL) (st : List Value) (w : zW) (nx K : Nat → zL → List Value → zW → Prop) (Rt : Option Value → zW → Prop) : z_st1 (tX9_exit 37) 37 lv st w nx K Rt = (z_la lv 0 (fun x => nx 38 lv (.ref x :: st) w)) := id rfl
theorem sX9_exit_38 (lv : zL) (st : List Value) (w : zW) (nx K : Nat → zL → List Value → zW → Prop) (Rt : Option Value → zW → Prop) : z_st1 (tX9_exit 38) 38 lv st w nx K Rt = (z_1a st (fun x r => z_ob w x 10 (fun fs => z_fl fs 17 (fun u => nx 41 lv (u :: r) w)))) := id rfl
theorem sX9_exit_41 (lv : zL) (st : List Value) (w : zW) (nx K : Nat → zL → List Value → zW → Prop) (Rt : Option Value → zW → Prop) : z_st1 (tX9_exit 41) 41 lv st w nx K Rt = (z_li lv 1 (fun x => nx 42 lv (.int x :: st) w)) := id rfl
theorem sX9_exit_42 (lv : zL) (st : List Value) (w : zW) (nx K : Nat → zL → List Value → zW → Prop) (Rt : Option Value → zW → Prop) : z_st1 (tX9_exit 42) 42 lv st w nx K Rt = (z_li lv 2 (fun x => nx 43 lv (.int x :: st) w)) := id rfl
theorem sX9_exit_43 (lv : zL) (st : List Value) (w : zW) (nx K : Nat → zL → List Value → zW → Prop) (Rt : Option Value → zW → Prop) : z_st1 (tX9_exit 43) 43 lv st w nx K Rt = (z_iia st (fun x i u r => z_ar0 w x (fun m g => vp_in i m ∧ nx 44 lv r (z_up w x (.inl (0, m, .inl (upd g i.toNatClampNeg u))))))) := id rfl
theorem sX9_exit_44 (lv : zL) (st : List Value) (w : zW) (nx K : Nat → zL → List Value → zW → Prop) (Rt : Option Value → zW → Prop) : z_st1 (tX9_exit 44) 44 lv st w nx K Rt = (z_la lv 0 (fun x => nx 45 lv (.ref x :: st) w)) := id rfl
theorem sX9_exit_45 (lv : zL) (st : List Value) (w : zW) (nx K : Nat → zL → List Value → zW → Prop) (Rt : Option Value → zW → Prop) : z_st1 (tX9_exit 45) 45 lv st w nx K Rt = (z_1a st (fun x r => z_ob w x 10 (fun fs => z_fl fs 18 (fun u => nx 48 lv (u :: r) w)))) := id rfl
theorem sX9_exit_48 (lv : zL) (st : List Value) (w : zW) (nx K : Nat → zL → List Value → zW → Prop) (Rt : Option Value → zW → Prop) : z_st1 (tX9_exit 48) 48 lv st w nx K Rt = (z_li lv 1 (fun x => nx 49 lv (.int x :: st) w)) := id rfl
theorem sX9_exit_49 (lv : zL) (st : List Value) (w : zW) (nx K : Nat → zL → List Value → zW → Prop) (Rt : Option Value → zW → Prop) : z_st1 (tX9_exit 49) 49 lv st w nx K Rt = (z_li lv 3 (fun x => nx 50 lv (.int x :: st) w)) := id rfl
theorem sX9_exit_50 (lv : zL) (st : List Value) (w : zW) (nx K : Nat → zL → List Value → zW → Prop) (Rt : Option Value → zW → Prop) : z_st1 (tX9_exit 50) 50 lv st w nx K Rt = (z_iia st (fun x i u r => z_ar0 w x (fun m g => vp_in i m ∧ nx 51 lv r (z_up w x (.inl (0, m, .inl (upd g i.toNatClampNeg u))))))) := id rfl
theorem sX9_exit_51 (lv : zL) (st : List Value) (w : zW) (nx K : Nat → zL → List Value → zW → Prop) (Rt : Option Value → zW → Prop) : z_st1 (tX9_exit 51) 51 lv st w nx K Rt = (nx 52 lv (.int (1 : Int32) :: st) w) := id rfl
theorem sX9_exit_52 (lv : zL) (st : List Value) (w : zW) (nx K : Nat → zL → List Value → zW → Prop) (Rt : Option Value → zW → Prop) : z_st1 (tX9_exit 52) 52 lv st w nx K Rt = (z_e1 st (fun x => Rt (some (.int x)) w)) := id rfl

def tmX9_begin (pc : Nat) : zI := match pc with
  | 0 => (1, 0, 0, 1, 0)
  | 1 => (6, 0, 0, 2, 0)
  | 2 => (47, 10, 0, 5, 0)
  | 5 => (1, 0, 0, 6, 0)
  | 6 => (46, 10, 3, 9, 0)
  | 9 => (6, 0, 0, 10, 1)
  | 10 => (41, 16, 0, 13, 0)
  | 13 => (6, 0, 0, 15, (-5))
  | 15 => (53, 0, 0, 16, 0)
  | 16 => (1, 0, 0, 17, 0)
  | 17 => (6, 0, 0, 18, 1)
  | 18 => (47, 10, 3, 21, 0)
  | 21 => (1, 0, 0, 22, 0)
  | 22 => (6, 0, 0, 23, 0)
  | 23 => (47, 10, 22, 26, 0)
  | 26 => (1, 0, 0, 27, 0)
  | 27 => (6, 0, 0, 28, (-1))
  | 28 => (47, 10, 33, 31, 0)
  | 31 => (6, 0, 0, 32, 1)
  | 32 => (53, 0, 0, 33, 0)
  | _ => (99, 0, 0, 0, 0)
def tX9_begin (pc : Nat) : zI := if pc < 33 then tmX9_begin pc else (99, 0, 0, 0, 0)
theorem tkX9_begin : z_tab RX9 wsX9_begin 1 (some .int) cX9_begin 33 tX9_begin := z_tab_of (tm := tmX9_begin) (by decide +kernel)
theorem sX9_begin_0 (lv : zL) (st : List Value) (w : zW) (nx K : Nat → zL → List Value → zW → Prop) (Rt : Option Value → zW → Prop) : z_st1 (tX9_begin 0) 0 lv st w nx K Rt = (z_la lv 0 (fun x => nx 1 lv (.ref x :: st) w)) := id rfl
theorem sX9_begin_1 (lv : zL) (st : List Value) (w : zW) (nx K : Nat → zL → List Value → zW → Prop) (Rt : Option Value → zW → Prop) : z_st1 (tX9_begin 1) 1 lv st w nx K Rt = (nx 2 lv (.int (0 : Int32) :: st) w) := id rfl
theorem sX9_begin_2 (lv : zL) (st : List Value) (w : zW) (nx K : Nat → zL → List Value → zW → Prop) (Rt : Option Value → zW → Prop) : z_st1 (tX9_begin 2) 2 lv st w nx K Rt = (z_ia st (fun x i r => z_ob w x 10 (fun fs => 0 < fs.length ∧ nx 5 lv r (z_up w x (.inr (10, fs.set 0 (.int i))))))) := id rfl
theorem sX9_begin_5 (lv : zL) (st : List Value) (w : zW) (nx K : Nat → zL → List Value → zW → Prop) (Rt : Option Value → zW → Prop) : z_st1 (tX9_begin 5) 5 lv st w nx K Rt = (z_la lv 0 (fun x => nx 6 lv (.ref x :: st) w)) := id rfl
theorem sX9_begin_6 (lv : zL) (st : List Value) (w : zW) (nx K : Nat → zL → List Value → zW → Prop) (Rt : Option Value → zW → Prop) : z_st1 (tX9_begin 6) 6 lv st w nx K Rt = (z_1a st (fun x r => z_ob w x 10 (fun fs => z_fl fs 3 (fun u => nx 9 lv (u :: r) w)))) := id rfl
theorem sX9_begin_9 (lv : zL) (st : List Value) (w : zW) (nx K : Nat → zL → List Value → zW → Prop) (Rt : Option Value → zW → Prop) : z_st1 (tX9_begin 9) 9 lv st w nx K Rt = (nx 10 lv (.int (1 : Int32) :: st) w) := id rfl
theorem sX9_begin_10 (lv : zL) (st : List Value) (w : zW) (nx K : Nat → zL → List Value → zW → Prop) (Rt : Option Value → zW → Prop) : z_st1 (tX9_begin 10) 10 lv st w nx K Rt = (z_2i st (fun x y r => (¬ x = y → nx 16 lv r w) ∧ (x = y → nx 13 lv r w))) := id rfl
theorem sX9_begin_13 (lv : zL) (st : List Value) (w : zW) (nx K : Nat → zL → List Value → zW → Prop) (Rt : Option Value → zW → Prop) : z_st1 (tX9_begin 13) 13 lv st w nx K Rt = (nx 15 lv (.int (-5 : Int32) :: st) w) := id rfl
theorem sX9_begin_15 (lv : zL) (st : List Value) (w : zW) (nx K : Nat → zL → List Value → zW → Prop) (Rt : Option Value → zW → Prop) : z_st1 (tX9_begin 15) 15 lv st w nx K Rt = (z_e1 st (fun x => Rt (some (.int x)) w)) := id rfl
theorem sX9_begin_16 (lv : zL) (st : List Value) (w : zW) (nx K : Nat → zL → List Value → zW → Prop) (Rt : Option Value → zW → Prop) : z_st1 (tX9_begin 16) 16 lv st w nx K Rt = (z_la lv 0 (fun x => nx 17 lv (.ref x :: st) w)) := id rfl
theorem sX9_begin_17 (lv : zL) (st : List Value) (w : zW) (nx K : Nat → zL → List Value → zW → Prop) (Rt : Option Value → zW → Prop) : z_st1 (tX9_begin 17) 17 lv st w nx K Rt = (nx 18 lv (.int (1 : Int32) :: st) w) := id rfl
theorem sX9_begin_18 (lv : zL) (st : List Value) (w : zW) (nx K : Nat → zL → List Value → zW → Prop) (Rt : Option Value → zW → Prop) : z_st1 (tX9_begin 18) 18 lv st w nx K Rt = (z_ia st (fun x i r => z_ob w x 10 (fun fs => 3 < fs.length ∧ nx 21 lv r (z_up w x (.inr (10, fs.set 3 (.int i))))))) := id rfl
theorem sX9_begin_21 (lv : zL) (st : List Value) (w : zW) (nx K : Nat → zL → List Value → zW → Prop) (Rt : Option Value → zW → Prop) : z_st1 (tX9_begin 21) 21 lv st w nx K Rt = (z_la lv 0 (fun x => nx 22 lv (.ref x :: st) w)) := id rfl
theorem sX9_begin_22 (lv : zL) (st : List Value) (w : zW) (nx K : Nat → zL → List Value → zW → Prop) (Rt : Option Value → zW → Prop) : z_st1 (tX9_begin 22) 22 lv st w nx K Rt = (nx 23 lv (.int (0 : Int32) :: st) w) := id rfl
theorem sX9_begin_23 (lv : zL) (st : List Value) (w : zW) (nx K : Nat → zL → List Value → zW → Prop) (Rt : Option Value → zW → Prop) : z_st1 (tX9_begin 23) 23 lv st w nx K Rt = (z_ia st (fun x i r => z_ob w x 10 (fun fs => 22 < fs.length ∧ nx 26 lv r (z_up w x (.inr (10, fs.set 22 (.int i))))))) := id rfl
theorem sX9_begin_26 (lv : zL) (st : List Value) (w : zW) (nx K : Nat → zL → List Value → zW → Prop) (Rt : Option Value → zW → Prop) : z_st1 (tX9_begin 26) 26 lv st w nx K Rt = (z_la lv 0 (fun x => nx 27 lv (.ref x :: st) w)) := id rfl
theorem sX9_begin_27 (lv : zL) (st : List Value) (w : zW) (nx K : Nat → zL → List Value → zW → Prop) (Rt : Option Value → zW → Prop) : z_st1 (tX9_begin 27) 27 lv st w nx K Rt = (nx 28 lv (.int (-1 : Int32) :: st) w) := id rfl
theorem sX9_begin_28 (lv : zL) (st : List Value) (w : zW) (nx K : Nat → zL → List Value → zW → Prop) (Rt : Option Value → zW → Prop) : z_st1 (tX9_begin 28) 28 lv st w nx K Rt = (z_ia st (fun x i r => z_ob w x 10 (fun fs => 33 < fs.length ∧ nx 31 lv r (z_up w x (.inr (10, fs.set 33 (.int i))))))) := id rfl
theorem sX9_begin_31 (lv : zL) (st : List Value) (w : zW) (nx K : Nat → zL → List Value → zW → Prop) (Rt : Option Value → zW → Prop) : z_st1 (tX9_begin 31) 31 lv st w nx K Rt = (nx 32 lv (.int (1 : Int32) :: st) w) := id rfl
theorem sX9_begin_32 (lv : zL) (st : List Value) (w : zW) (nx K : Nat → zL → List Value → zW → Prop) (Rt : Option Value → zW → Prop) : z_st1 (tX9_begin 32) 32 lv st w nx K Rt = (z_e1 st (fun x => Rt (some (.int x)) w)) := id rfl

def tmX9_release (pc : Nat) : zI := match pc with
  | 0 => (1, 0, 0, 1, 0)
  | 1 => (6, 0, 0, 2, 0)
  | 2 => (47, 10, 0, 5, 0)
  | 5 => (1, 0, 0, 6, 0)
  | 6 => (0, 1, 0, 7, 0)
  | 10 => (35, 16, 0, 13, 0)
  | 13 => (6, 0, 0, 15, (-2))
  | 15 => (53, 0, 0, 16, 0)
  | 16 => (1, 0, 0, 17, 0)
  | 17 => (46, 10, 3, 20, 0)
  | 20 => (6, 0, 0, 21, 1)
  | 21 => (40, 27, 0, 24, 0)
  | 24 => (6, 0, 0, 26, (-5))
  | 26 => (53, 0, 0, 27, 0)
  | 27 => (1, 0, 0, 28, 0)
  | 28 => (46, 10, 22, 31, 0)
  | 31 => (6, 0, 0, 34, 1000)
  | 34 => (41, 39, 0, 37, 0)
  | 37 => (6, 0, 0, 38, (-1))
  | 38 => (53, 0, 0, 39, 0)
  | 39 => (1, 0, 0, 40, 0)
  | 40 => (46, 10, 21, 43, 0)
  | 43 => (1, 0, 0, 44, 0)
  | 44 => (46, 10, 22, 47, 0)
  | 47 => (0, 1, 0, 48, 0)
  | 48 => (49, 0, 0, 49, 0)
  | 49 => (1, 0, 0, 50, 0)
  | 50 => (29, 0, 0, 51, 0)
  | 51 => (46, 10, 22, 54, 0)
  | 54 => (6, 0, 0, 55, 1)
  | 55 => (8, 0, 0, 56, 0)
  | 56 => (47, 10, 22, 59, 0)
  | 59 => (1, 0, 0, 60, 0)
  | 60 => (46, 10, 22, 63, 0)
  | 63 => (53, 0, 0, 64, 0)
  | _ => (99, 0, 0, 0, 0)
def tX9_release (pc : Nat) : zI := if pc < 64 then tmX9_release pc else (99, 0, 0, 0, 0)
theorem tkX9_release : z_tab RX9 wsX9_release 2 (some .int) cX9_release 64 tX9_release := z_tab_of (tm := tmX9_release) (by decide +kernel)
theorem sX9_release_0 (lv : zL) (st : List Value) (w : zW) (nx K : Nat → zL → List Value → zW → Prop) (Rt : Option Value → zW → Prop) : z_st1 (tX9_release 0) 0 lv st w nx K Rt = (z_la lv 0 (fun x => nx 1 lv (.ref x :: st) w)) := id rfl
theorem sX9_release_1 (lv : zL) (st : List Value) (w : zW) (nx K : Nat → zL → List Value → zW → Prop) (Rt : Option Value → zW → Prop) : z_st1 (tX9_release 1) 1 lv st w nx K Rt = (nx 2 lv (.int (0 : Int32) :: st) w) := id rfl
theorem sX9_release_2 (lv : zL) (st : List Value) (w : zW) (nx K : Nat → zL → List Value → zW → Prop) (Rt : Option Value → zW → Prop) : z_st1 (tX9_release 2) 2 lv st w nx K Rt = (z_ia st (fun x i r => z_ob w x 10 (fun fs => 0 < fs.length ∧ nx 5 lv r (z_up w x (.inr (10, fs.set 0 (.int i))))))) := id rfl
theorem sX9_release_5 (lv : zL) (st : List Value) (w : zW) (nx K : Nat → zL → List Value → zW → Prop) (Rt : Option Value → zW → Prop) : z_st1 (tX9_release 5) 5 lv st w nx K Rt = (z_la lv 0 (fun x => nx 6 lv (.ref x :: st) w)) := id rfl
theorem sX9_release_6 (lv : zL) (st : List Value) (w : zW) (nx K : Nat → zL → List Value → zW → Prop) (Rt : Option Value → zW → Prop) : z_st1 (tX9_release 6) 6 lv st w nx K Rt = (z_li lv 1 (fun x => nx 7 lv (.int x :: st) w)) := id rfl
theorem sX9_release_10 (lv : zL) (st : List Value) (w : zW) (nx K : Nat → zL → List Value → zW → Prop) (Rt : Option Value → zW → Prop) : z_st1 (tX9_release 10) 10 lv st w nx K Rt = (z_1i st (fun x r => (¬ x = 0 → nx 16 lv r w) ∧ (x = 0 → nx 13 lv r w))) := id rfl
theorem sX9_release_13 (lv : zL) (st : List Value) (w : zW) (nx K : Nat → zL → List Value → zW → Prop) (Rt : Option Value → zW → Prop) : z_st1 (tX9_release 13) 13 lv st w nx K Rt = (nx 15 lv (.int (-2 : Int32) :: st) w) := id rfl
theorem sX9_release_15 (lv : zL) (st : List Value) (w : zW) (nx K : Nat → zL → List Value → zW → Prop) (Rt : Option Value → zW → Prop) : z_st1 (tX9_release 15) 15 lv st w nx K Rt = (z_e1 st (fun x => Rt (some (.int x)) w)) := id rfl
theorem sX9_release_16 (lv : zL) (st : List Value) (w : zW) (nx K : Nat → zL → List Value → zW → Prop) (Rt : Option Value → zW → Prop) : z_st1 (tX9_release 16) 16 lv st w nx K Rt = (z_la lv 0 (fun x => nx 17 lv (.ref x :: st) w)) := id rfl
theorem sX9_release_17 (lv : zL) (st : List Value) (w : zW) (nx K : Nat → zL → List Value → zW → Prop) (Rt : Option Value → zW → Prop) : z_st1 (tX9_release 17) 17 lv st w nx K Rt = (z_1a st (fun x r => z_ob w x 10 (fun fs => z_fl fs 3 (fun u => nx 20 lv (u :: r) w)))) := id rfl
theorem sX9_release_20 (lv : zL) (st : List Value) (w : zW) (nx K : Nat → zL → List Value → zW → Prop) (Rt : Option Value → zW → Prop) : z_st1 (tX9_release 20) 20 lv st w nx K Rt = (nx 21 lv (.int (1 : Int32) :: st) w) := id rfl
theorem sX9_release_21 (lv : zL) (st : List Value) (w : zW) (nx K : Nat → zL → List Value → zW → Prop) (Rt : Option Value → zW → Prop) : z_st1 (tX9_release 21) 21 lv st w nx K Rt = (z_2i st (fun x y r => (x = y → nx 27 lv r w) ∧ (¬ x = y → nx 24 lv r w))) := id rfl
theorem sX9_release_24 (lv : zL) (st : List Value) (w : zW) (nx K : Nat → zL → List Value → zW → Prop) (Rt : Option Value → zW → Prop) : z_st1 (tX9_release 24) 24 lv st w nx K Rt = (nx 26 lv (.int (-5 : Int32) :: st) w) := id rfl
theorem sX9_release_26 (lv : zL) (st : List Value) (w : zW) (nx K : Nat → zL → List Value → zW → Prop) (Rt : Option Value → zW → Prop) : z_st1 (tX9_release 26) 26 lv st w nx K Rt = (z_e1 st (fun x => Rt (some (.int x)) w)) := id rfl
theorem sX9_release_27 (lv : zL) (st : List Value) (w : zW) (nx K : Nat → zL → List Value → zW → Prop) (Rt : Option Value → zW → Prop) : z_st1 (tX9_release 27) 27 lv st w nx K Rt = (z_la lv 0 (fun x => nx 28 lv (.ref x :: st) w)) := id rfl
theorem sX9_release_28 (lv : zL) (st : List Value) (w : zW) (nx K : Nat → zL → List Value → zW → Prop) (Rt : Option Value → zW → Prop) : z_st1 (tX9_release 28) 28 lv st w nx K Rt = (z_1a st (fun x r => z_ob w x 10 (fun fs => z_fl fs 22 (fun u => nx 31 lv (u :: r) w)))) := id rfl
theorem sX9_release_31 (lv : zL) (st : List Value) (w : zW) (nx K : Nat → zL → List Value → zW → Prop) (Rt : Option Value → zW → Prop) : z_st1 (tX9_release 31) 31 lv st w nx K Rt = (nx 34 lv (.int (1000 : Int32) :: st) w) := id rfl
theorem sX9_release_34 (lv : zL) (st : List Value) (w : zW) (nx K : Nat → zL → List Value → zW → Prop) (Rt : Option Value → zW → Prop) : z_st1 (tX9_release 34) 34 lv st w nx K Rt = (z_2i st (fun x y r => (¬ x = y → nx 39 lv r w) ∧ (x = y → nx 37 lv r w))) := id rfl
theorem sX9_release_37 (lv : zL) (st : List Value) (w : zW) (nx K : Nat → zL → List Value → zW → Prop) (Rt : Option Value → zW → Prop) : z_st1 (tX9_release 37) 37 lv st w nx K Rt = (nx 38 lv (.int (-1 : Int32) :: st) w) := id rfl
theorem sX9_release_38 (lv : zL) (st : List Value) (w : zW) (nx K : Nat → zL → List Value → zW → Prop) (Rt : Option Value → zW → Prop) : z_st1 (tX9_release 38) 38 lv st w nx K Rt = (z_e1 st (fun x => Rt (some (.int x)) w)) := id rfl
theorem sX9_release_39 (lv : zL) (st : List Value) (w : zW) (nx K : Nat → zL → List Value → zW → Prop) (Rt : Option Value → zW → Prop) : z_st1 (tX9_release 39) 39 lv st w nx K Rt = (z_la lv 0 (fun x => nx 40 lv (.ref x :: st) w)) := id rfl
theorem sX9_release_40 (lv : zL) (st : List Value) (w : zW) (nx K : Nat → zL → List Value → zW → Prop) (Rt : Option Value → zW → Prop) : z_st1 (tX9_release 40) 40 lv st w nx K Rt = (z_1a st (fun x r => z_ob w x 10 (fun fs => z_fl fs 21 (fun u => nx 43 lv (u :: r) w)))) := id rfl
theorem sX9_release_43 (lv : zL) (st : List Value) (w : zW) (nx K : Nat → zL → List Value → zW → Prop) (Rt : Option Value → zW → Prop) : z_st1 (tX9_release 43) 43 lv st w nx K Rt = (z_la lv 0 (fun x => nx 44 lv (.ref x :: st) w)) := id rfl
theorem sX9_release_44 (lv : zL) (st : List Value) (w : zW) (nx K : Nat → zL → List Value → zW → Prop) (Rt : Option Value → zW → Prop) : z_st1 (tX9_release 44) 44 lv st w nx K Rt = (z_1a st (fun x r => z_ob w x 10 (fun fs => z_fl fs 22 (fun u => nx 47 lv (u :: r) w)))) := id rfl
theorem sX9_release_47 (lv : zL) (st : List Value) (w : zW) (nx K : Nat → zL → List Value → zW → Prop) (Rt : Option Value → zW → Prop) : z_st1 (tX9_release 47) 47 lv st w nx K Rt = (z_li lv 1 (fun x => nx 48 lv (.int x :: st) w)) := id rfl
theorem sX9_release_48 (lv : zL) (st : List Value) (w : zW) (nx K : Nat → zL → List Value → zW → Prop) (Rt : Option Value → zW → Prop) : z_st1 (tX9_release 48) 48 lv st w nx K Rt = (z_iia st (fun x i u r => z_ar0 w x (fun m g => vp_in i m ∧ nx 49 lv r (z_up w x (.inl (0, m, .inl (upd g i.toNatClampNeg u))))))) := id rfl
theorem sX9_release_49 (lv : zL) (st : List Value) (w : zW) (nx K : Nat → zL → List Value → zW → Prop) (Rt : Option Value → zW → Prop) : z_st1 (tX9_release 49) 49 lv st w nx K Rt = (z_la lv 0 (fun x => nx 50 lv (.ref x :: st) w)) := id rfl
theorem sX9_release_50 (lv : zL) (st : List Value) (w : zW) (nx K : Nat → zL → List Value → zW → Prop) (Rt : Option Value → zW → Prop) : z_st1 (tX9_release 50) 50 lv st w nx K Rt = (z_d1 st (fun x r => nx 51 lv (x :: x :: r) w)) := id rfl
theorem sX9_release_51 (lv : zL) (st : List Value) (w : zW) (nx K : Nat → zL → List Value → zW → Prop) (Rt : Option Value → zW → Prop) : z_st1 (tX9_release 51) 51 lv st w nx K Rt = (z_1a st (fun x r => z_ob w x 10 (fun fs => z_fl fs 22 (fun u => nx 54 lv (u :: r) w)))) := id rfl
theorem sX9_release_54 (lv : zL) (st : List Value) (w : zW) (nx K : Nat → zL → List Value → zW → Prop) (Rt : Option Value → zW → Prop) : z_st1 (tX9_release 54) 54 lv st w nx K Rt = (nx 55 lv (.int (1 : Int32) :: st) w) := id rfl
theorem sX9_release_55 (lv : zL) (st : List Value) (w : zW) (nx K : Nat → zL → List Value → zW → Prop) (Rt : Option Value → zW → Prop) : z_st1 (tX9_release 55) 55 lv st w nx K Rt = (z_2i st (fun x y r => nx 56 lv (.int (x + y) :: r) w)) := id rfl
theorem sX9_release_56 (lv : zL) (st : List Value) (w : zW) (nx K : Nat → zL → List Value → zW → Prop) (Rt : Option Value → zW → Prop) : z_st1 (tX9_release 56) 56 lv st w nx K Rt = (z_ia st (fun x i r => z_ob w x 10 (fun fs => 22 < fs.length ∧ nx 59 lv r (z_up w x (.inr (10, fs.set 22 (.int i))))))) := id rfl
theorem sX9_release_59 (lv : zL) (st : List Value) (w : zW) (nx K : Nat → zL → List Value → zW → Prop) (Rt : Option Value → zW → Prop) : z_st1 (tX9_release 59) 59 lv st w nx K Rt = (z_la lv 0 (fun x => nx 60 lv (.ref x :: st) w)) := id rfl
theorem sX9_release_60 (lv : zL) (st : List Value) (w : zW) (nx K : Nat → zL → List Value → zW → Prop) (Rt : Option Value → zW → Prop) : z_st1 (tX9_release 60) 60 lv st w nx K Rt = (z_1a st (fun x r => z_ob w x 10 (fun fs => z_fl fs 22 (fun u => nx 63 lv (u :: r) w)))) := id rfl
theorem sX9_release_63 (lv : zL) (st : List Value) (w : zW) (nx K : Nat → zL → List Value → zW → Prop) (Rt : Option Value → zW → Prop) : z_st1 (tX9_release 63) 63 lv st w nx K Rt = (z_e1 st (fun x => Rt (some (.int x)) w)) := id rfl
theorem sX9_release_7 (lv : zL) (st : List Value) (w : zW) (nx K : Nat → zL → List Value → zW → Prop) (Rt : Option Value → zW → Prop) : z_st1 (tX9_release 7) 7 lv st w nx K Rt = K 7 lv st w := id rfl
theorem dX9_release_7 : decode cX9_release 7 = .ok (.invokevirtual 101, 3) := by decide +kernel

def tmX9_value (pc : Nat) : zI := match pc with
  | 0 => (57, 0, 0, 1, 0)
  | 1 => (5, 3, 0, 2, 0)
  | 2 => (6, 0, 0, 3, 0)
  | 3 => (3, 5, 0, 5, 0)
  | 5 => (0, 5, 0, 7, 0)
  | 7 => (0, 2, 0, 8, 0)
  | 8 => (43, 37, 0, 11, 0)
  | 11 => (57, 0, 0, 14, 10)
  | 14 => (2, 3, 0, 15, 0)
  | 15 => (18, 0, 0, 16, 0)
  | 16 => (1, 0, 0, 17, 0)
  | 17 => (0, 1, 0, 18, 0)
  | 18 => (0, 5, 0, 20, 0)
  | 20 => (8, 0, 0, 21, 0)
  | 21 => (48, 0, 0, 22, 0)
  | 22 => (6, 0, 0, 24, 15)
  | 24 => (11, 0, 0, 25, 0)
  | 25 => (6, 0, 0, 27, 10)
  | 27 => (16, 0, 0, 28, 0)
  | 28 => (25, 0, 0, 29, 0)
  | 29 => (17, 0, 0, 30, 0)
  | 30 => (5, 3, 0, 31, 0)
  | 31 => (7, 5, 0, 34, 1)
  | 34 => (33, 5, 0, 37, 0)
  | 37 => (1, 0, 0, 38, 0)
  | 38 => (0, 1, 0, 39, 0)
  | 39 => (0, 2, 0, 40, 0)
  | 40 => (8, 0, 0, 41, 0)
  | 41 => (6, 0, 0, 42, 1)
  | 42 => (9, 0, 0, 43, 0)
  | 43 => (48, 0, 0, 44, 0)
  | 44 => (6, 0, 0, 46, 64)
  | 46 => (11, 0, 0, 47, 0)
  | 47 => (34, 56, 0, 50, 0)
  | 50 => (57, 0, 0, 51, 0)
  | 51 => (2, 3, 0, 52, 0)
  | 52 => (21, 0, 0, 53, 0)
  | 53 => (33, 57, 0, 56, 0)
  | 56 => (2, 3, 0, 57, 0)
  | 57 => (54, 0, 0, 58, 0)
  | _ => (99, 0, 0, 0, 0)
def tX9_value (pc : Nat) : zI := if pc < 58 then tmX9_value pc else (99, 0, 0, 0, 0)
theorem tkX9_value : z_tab RX9 wsX9_value 6 (some .long) cX9_value 58 tX9_value := z_tab_of (tm := tmX9_value) (by decide +kernel)
theorem sX9_value_0 (lv : zL) (st : List Value) (w : zW) (nx K : Nat → zL → List Value → zW → Prop) (Rt : Option Value → zW → Prop) : z_st1 (tX9_value 0) 0 lv st w nx K Rt = (nx 1 lv (.long (0 : Int32).toInt64 :: st) w) := id rfl
theorem sX9_value_1 (lv : zL) (st : List Value) (w : zW) (nx K : Nat → zL → List Value → zW → Prop) (Rt : Option Value → zW → Prop) : z_st1 (tX9_value 1) 1 lv st w nx K Rt = (z_1l st (fun x r => z_ok1 lv 3 = true ∧ nx 2 ((lv.set 3 (some (.long x))).set (3 + 1) none) r w)) := id rfl
theorem sX9_value_2 (lv : zL) (st : List Value) (w : zW) (nx K : Nat → zL → List Value → zW → Prop) (Rt : Option Value → zW → Prop) : z_st1 (tX9_value 2) 2 lv st w nx K Rt = (nx 3 lv (.int (0 : Int32) :: st) w) := id rfl
theorem sX9_value_3 (lv : zL) (st : List Value) (w : zW) (nx K : Nat → zL → List Value → zW → Prop) (Rt : Option Value → zW → Prop) : z_st1 (tX9_value 3) 3 lv st w nx K Rt = (z_1i st (fun x r => z_ok1 lv 5 = true ∧ nx 5 (lv.set 5 (some (.int x))) r w)) := id rfl
theorem sX9_value_5 (lv : zL) (st : List Value) (w : zW) (nx K : Nat → zL → List Value → zW → Prop) (Rt : Option Value → zW → Prop) : z_st1 (tX9_value 5) 5 lv st w nx K Rt = (z_li lv 5 (fun x => nx 7 lv (.int x :: st) w)) := id rfl
theorem sX9_value_7 (lv : zL) (st : List Value) (w : zW) (nx K : Nat → zL → List Value → zW → Prop) (Rt : Option Value → zW → Prop) : z_st1 (tX9_value 7) 7 lv st w nx K Rt = (z_li lv 2 (fun x => nx 8 lv (.int x :: st) w)) := id rfl
theorem sX9_value_8 (lv : zL) (st : List Value) (w : zW) (nx K : Nat → zL → List Value → zW → Prop) (Rt : Option Value → zW → Prop) : z_st1 (tX9_value 8) 8 lv st w nx K Rt = (z_2i st (fun x y r => (y ≤ x → nx 37 lv r w) ∧ (¬ y ≤ x → nx 11 lv r w))) := id rfl
theorem sX9_value_11 (lv : zL) (st : List Value) (w : zW) (nx K : Nat → zL → List Value → zW → Prop) (Rt : Option Value → zW → Prop) : z_st1 (tX9_value 11) 11 lv st w nx K Rt = (nx 14 lv (.long (10 : Int32).toInt64 :: st) w) := id rfl
theorem sX9_value_14 (lv : zL) (st : List Value) (w : zW) (nx K : Nat → zL → List Value → zW → Prop) (Rt : Option Value → zW → Prop) : z_st1 (tX9_value 14) 14 lv st w nx K Rt = (z_ll lv 3 (fun x => nx 15 lv (.long x :: st) w)) := id rfl
theorem sX9_value_15 (lv : zL) (st : List Value) (w : zW) (nx K : Nat → zL → List Value → zW → Prop) (Rt : Option Value → zW → Prop) : z_st1 (tX9_value 15) 15 lv st w nx K Rt = (z_2l st (fun x y r => nx 16 lv (.long (x * y) :: r) w)) := id rfl
theorem sX9_value_16 (lv : zL) (st : List Value) (w : zW) (nx K : Nat → zL → List Value → zW → Prop) (Rt : Option Value → zW → Prop) : z_st1 (tX9_value 16) 16 lv st w nx K Rt = (z_la lv 0 (fun x => nx 17 lv (.ref x :: st) w)) := id rfl
theorem sX9_value_17 (lv : zL) (st : List Value) (w : zW) (nx K : Nat → zL → List Value → zW → Prop) (Rt : Option Value → zW → Prop) : z_st1 (tX9_value 17) 17 lv st w nx K Rt = (z_li lv 1 (fun x => nx 18 lv (.int x :: st) w)) := id rfl
theorem sX9_value_18 (lv : zL) (st : List Value) (w : zW) (nx K : Nat → zL → List Value → zW → Prop) (Rt : Option Value → zW → Prop) : z_st1 (tX9_value 18) 18 lv st w nx K Rt = (z_li lv 5 (fun x => nx 20 lv (.int x :: st) w)) := id rfl
theorem sX9_value_20 (lv : zL) (st : List Value) (w : zW) (nx K : Nat → zL → List Value → zW → Prop) (Rt : Option Value → zW → Prop) : z_st1 (tX9_value 20) 20 lv st w nx K Rt = (z_2i st (fun x y r => nx 21 lv (.int (x + y) :: r) w)) := id rfl
theorem sX9_value_21 (lv : zL) (st : List Value) (w : zW) (nx K : Nat → zL → List Value → zW → Prop) (Rt : Option Value → zW → Prop) : z_st1 (tX9_value 21) 21 lv st w nx K Rt = (z_ia st (fun x i r => z_ar0 w x (fun m g => vp_in i m ∧ nx 22 lv (.int (g i.toNatClampNeg) :: r) w))) := id rfl
theorem sX9_value_22 (lv : zL) (st : List Value) (w : zW) (nx K : Nat → zL → List Value → zW → Prop) (Rt : Option Value → zW → Prop) : z_st1 (tX9_value 22) 22 lv st w nx K Rt = (nx 24 lv (.int (15 : Int32) :: st) w) := id rfl
theorem sX9_value_24 (lv : zL) (st : List Value) (w : zW) (nx K : Nat → zL → List Value → zW → Prop) (Rt : Option Value → zW → Prop) : z_st1 (tX9_value 24) 24 lv st w nx K Rt = (z_2i st (fun x y r => nx 25 lv (.int (x &&& y) :: r) w)) := id rfl
theorem sX9_value_25 (lv : zL) (st : List Value) (w : zW) (nx K : Nat → zL → List Value → zW → Prop) (Rt : Option Value → zW → Prop) : z_st1 (tX9_value 25) 25 lv st w nx K Rt = (nx 27 lv (.int (10 : Int32) :: st) w) := id rfl
theorem sX9_value_27 (lv : zL) (st : List Value) (w : zW) (nx K : Nat → zL → List Value → zW → Prop) (Rt : Option Value → zW → Prop) : z_st1 (tX9_value 27) 27 lv st w nx K Rt = (z_2i st (fun x y r => ¬ y = 0 ∧ nx 28 lv (.int (x - x / y * y) :: r) w)) := id rfl
theorem sX9_value_28 (lv : zL) (st : List Value) (w : zW) (nx K : Nat → zL → List Value → zW → Prop) (Rt : Option Value → zW → Prop) : z_st1 (tX9_value 28) 28 lv st w nx K Rt = (z_1i st (fun x r => nx 29 lv (.long x.toInt64 :: r) w)) := id rfl
theorem sX9_value_29 (lv : zL) (st : List Value) (w : zW) (nx K : Nat → zL → List Value → zW → Prop) (Rt : Option Value → zW → Prop) : z_st1 (tX9_value 29) 29 lv st w nx K Rt = (z_2l st (fun x y r => nx 30 lv (.long (x + y) :: r) w)) := id rfl
theorem sX9_value_30 (lv : zL) (st : List Value) (w : zW) (nx K : Nat → zL → List Value → zW → Prop) (Rt : Option Value → zW → Prop) : z_st1 (tX9_value 30) 30 lv st w nx K Rt = (z_1l st (fun x r => z_ok1 lv 3 = true ∧ nx 31 ((lv.set 3 (some (.long x))).set (3 + 1) none) r w)) := id rfl
theorem sX9_value_31 (lv : zL) (st : List Value) (w : zW) (nx K : Nat → zL → List Value → zW → Prop) (Rt : Option Value → zW → Prop) : z_st1 (tX9_value 31) 31 lv st w nx K Rt = (z_li lv 5 (fun x => z_ok1 lv 5 = true ∧ nx 34 (lv.set 5 (some (.int (x + (1 : Int32))))) st w)) := id rfl
theorem sX9_value_34 (lv : zL) (st : List Value) (w : zW) (nx K : Nat → zL → List Value → zW → Prop) (Rt : Option Value → zW → Prop) : z_st1 (tX9_value 34) 34 lv st w nx K Rt = (nx 5 lv st w) := id rfl
theorem sX9_value_37 (lv : zL) (st : List Value) (w : zW) (nx K : Nat → zL → List Value → zW → Prop) (Rt : Option Value → zW → Prop) : z_st1 (tX9_value 37) 37 lv st w nx K Rt = (z_la lv 0 (fun x => nx 38 lv (.ref x :: st) w)) := id rfl
theorem sX9_value_38 (lv : zL) (st : List Value) (w : zW) (nx K : Nat → zL → List Value → zW → Prop) (Rt : Option Value → zW → Prop) : z_st1 (tX9_value 38) 38 lv st w nx K Rt = (z_li lv 1 (fun x => nx 39 lv (.int x :: st) w)) := id rfl
theorem sX9_value_39 (lv : zL) (st : List Value) (w : zW) (nx K : Nat → zL → List Value → zW → Prop) (Rt : Option Value → zW → Prop) : z_st1 (tX9_value 39) 39 lv st w nx K Rt = (z_li lv 2 (fun x => nx 40 lv (.int x :: st) w)) := id rfl
theorem sX9_value_40 (lv : zL) (st : List Value) (w : zW) (nx K : Nat → zL → List Value → zW → Prop) (Rt : Option Value → zW → Prop) : z_st1 (tX9_value 40) 40 lv st w nx K Rt = (z_2i st (fun x y r => nx 41 lv (.int (x + y) :: r) w)) := id rfl
theorem sX9_value_41 (lv : zL) (st : List Value) (w : zW) (nx K : Nat → zL → List Value → zW → Prop) (Rt : Option Value → zW → Prop) : z_st1 (tX9_value 41) 41 lv st w nx K Rt = (nx 42 lv (.int (1 : Int32) :: st) w) := id rfl
theorem sX9_value_42 (lv : zL) (st : List Value) (w : zW) (nx K : Nat → zL → List Value → zW → Prop) (Rt : Option Value → zW → Prop) : z_st1 (tX9_value 42) 42 lv st w nx K Rt = (z_2i st (fun x y r => nx 43 lv (.int (x - y) :: r) w)) := id rfl
theorem sX9_value_43 (lv : zL) (st : List Value) (w : zW) (nx K : Nat → zL → List Value → zW → Prop) (Rt : Option Value → zW → Prop) : z_st1 (tX9_value 43) 43 lv st w nx K Rt = (z_ia st (fun x i r => z_ar0 w x (fun m g => vp_in i m ∧ nx 44 lv (.int (g i.toNatClampNeg) :: r) w))) := id rfl
theorem sX9_value_44 (lv : zL) (st : List Value) (w : zW) (nx K : Nat → zL → List Value → zW → Prop) (Rt : Option Value → zW → Prop) : z_st1 (tX9_value 44) 44 lv st w nx K Rt = (nx 46 lv (.int (64 : Int32) :: st) w) := id rfl
theorem sX9_value_46 (lv : zL) (st : List Value) (w : zW) (nx K : Nat → zL → List Value → zW → Prop) (Rt : Option Value → zW → Prop) : z_st1 (tX9_value 46) 46 lv st w nx K Rt = (z_2i st (fun x y r => nx 47 lv (.int (x &&& y) :: r) w)) := id rfl
theorem sX9_value_47 (lv : zL) (st : List Value) (w : zW) (nx K : Nat → zL → List Value → zW → Prop) (Rt : Option Value → zW → Prop) : z_st1 (tX9_value 47) 47 lv st w nx K Rt = (z_1i st (fun x r => (x = 0 → nx 56 lv r w) ∧ (¬ x = 0 → nx 50 lv r w))) := id rfl
theorem sX9_value_50 (lv : zL) (st : List Value) (w : zW) (nx K : Nat → zL → List Value → zW → Prop) (Rt : Option Value → zW → Prop) : z_st1 (tX9_value 50) 50 lv st w nx K Rt = (nx 51 lv (.long (0 : Int32).toInt64 :: st) w) := id rfl
theorem sX9_value_51 (lv : zL) (st : List Value) (w : zW) (nx K : Nat → zL → List Value → zW → Prop) (Rt : Option Value → zW → Prop) : z_st1 (tX9_value 51) 51 lv st w nx K Rt = (z_ll lv 3 (fun x => nx 52 lv (.long x :: st) w)) := id rfl
theorem sX9_value_52 (lv : zL) (st : List Value) (w : zW) (nx K : Nat → zL → List Value → zW → Prop) (Rt : Option Value → zW → Prop) : z_st1 (tX9_value 52) 52 lv st w nx K Rt = (z_2l st (fun x y r => nx 53 lv (.long (x - y) :: r) w)) := id rfl
theorem sX9_value_53 (lv : zL) (st : List Value) (w : zW) (nx K : Nat → zL → List Value → zW → Prop) (Rt : Option Value → zW → Prop) : z_st1 (tX9_value 53) 53 lv st w nx K Rt = (nx 57 lv st w) := id rfl
theorem sX9_value_56 (lv : zL) (st : List Value) (w : zW) (nx K : Nat → zL → List Value → zW → Prop) (Rt : Option Value → zW → Prop) : z_st1 (tX9_value 56) 56 lv st w nx K Rt = (z_ll lv 3 (fun x => nx 57 lv (.long x :: st) w)) := id rfl
theorem sX9_value_57 (lv : zL) (st : List Value) (w : zW) (nx K : Nat → zL → List Value → zW → Prop) (Rt : Option Value → zW → Prop) : z_st1 (tX9_value 57) 57 lv st w nx K Rt = (z_e2 st (fun x => Rt (some (.long x)) w)) := id rfl

def tmX9_ordered (pc : Nat) : zI := match pc with
  | 0 => (6, 0, 0, 1, 0)
  | 1 => (3, 5, 0, 3, 0)
  | 3 => (0, 5, 0, 5, 0)
  | 5 => (1, 0, 0, 6, 0)
  | 6 => (46, 10, 8, 9, 0)
  | 9 => (43, 244, 0, 12, 0)
  | 12 => (6, 0, 0, 13, 0)
  | 13 => (3, 6, 0, 15, 0)
  | 15 => (1, 0, 0, 16, 0)
  | 16 => (46, 10, 4, 19, 0)
  | 19 => (0, 5, 0, 21, 0)
  | 21 => (48, 0, 0, 22, 0)
  | 22 => (3, 7, 0, 24, 0)
  | 24 => (1, 0, 0, 25, 0)
  | 25 => (46, 10, 6, 28, 0)
  | 28 => (0, 5, 0, 30, 0)
  | 30 => (48, 0, 0, 31, 0)
  | 31 => (6, 0, 0, 32, 3)
  | 32 => (41, 97, 0, 35, 0)
  | 35 => (1, 1, 0, 36, 0)
  | 36 => (0, 2, 0, 37, 0)
  | 37 => (0, 7, 0, 39, 0)
  | 39 => (8, 0, 0, 40, 0)
  | 40 => (1, 0, 0, 41, 0)
  | 41 => (46, 10, 5, 44, 0)
  | 44 => (0, 5, 0, 46, 0)
  | 46 => (48, 0, 0, 47, 0)
  | 50 => (5, 8, 0, 52, 0)
  | 52 => (1, 3, 0, 53, 0)
  | 53 => (0, 4, 0, 55, 0)
  | 55 => (0, 7, 0, 57, 0)
  | 57 => (8, 0, 0, 58, 0)
  | 58 => (1, 0, 0, 59, 0)
  | 59 => (46, 10, 5, 62, 0)
  | 62 => (0, 5, 0, 64, 0)
  | 64 => (48, 0, 0, 65, 0)
  | 68 => (5, 10, 0, 70, 0)
  | 70 => (2, 8, 0, 72, 0)
  | 72 => (2, 10, 0, 74, 0)
  | 74 => (28, 0, 0, 75, 0)
  | 75 => (37, 82, 0, 78, 0)
  | 78 => (6, 0, 0, 79, (-1))
  | 79 => (33, 95, 0, 82, 0)
  | 82 => (2, 8, 0, 84, 0)
  | 84 => (2, 10, 0, 86, 0)
  | 86 => (28, 0, 0, 87, 0)
  | 87 => (39, 94, 0, 90, 0)
  | 90 => (6, 0, 0, 91, 1)
  | 91 => (33, 95, 0, 94, 0)
  | 94 => (6, 0, 0, 95, 0)
  | 95 => (3, 6, 0, 97, 0)
  | 97 => (6, 0, 0, 98, 0)
  | 98 => (3, 8, 0, 100, 0)
  | 100 => (0, 8, 0, 102, 0)
  | 102 => (1, 0, 0, 103, 0)
  | 103 => (46, 10, 5, 106, 0)
  | 106 => (0, 5, 0, 108, 0)
  | 108 => (48, 0, 0, 109, 0)
  | 109 => (43, 213, 0, 112, 0)
  | 112 => (0, 6, 0, 114, 0)
  | 114 => (35, 213, 0, 117, 0)
  | 117 => (1, 0, 0, 118, 0)
  | 118 => (46, 10, 6, 121, 0)
  | 121 => (0, 5, 0, 123, 0)
  | 123 => (48, 0, 0, 124, 0)
  | 124 => (6, 0, 0, 125, 3)
  | 125 => (40, 213, 0, 128, 0)
  | 128 => (0, 8, 0, 130, 0)
  | 130 => (35, 150, 0, 133, 0)
  | 133 => (1, 0, 0, 134, 0)
  | 134 => (46, 10, 6, 137, 0)
  | 137 => (0, 5, 0, 139, 0)
  | 139 => (48, 0, 0, 140, 0)
  | 140 => (6, 0, 0, 141, 2)
  | 141 => (41, 150, 0, 144, 0)
  | 144 => (6, 0, 0, 147, 128)
  | 147 => (33, 151, 0, 150, 0)
  | 150 => (6, 0, 0, 151, 0)
  | 151 => (3, 9, 0, 153, 0)
  | 153 => (1, 1, 0, 154, 0)
  | 154 => (0, 2, 0, 155, 0)
  | 155 => (0, 7, 0, 157, 0)
  | 157 => (8, 0, 0, 158, 0)
  | 158 => (0, 8, 0, 160, 0)
  | 160 => (8, 0, 0, 161, 0)
  | 161 => (48, 0, 0, 162, 0)
  | 162 => (0, 9, 0, 164, 0)
  | 164 => (13, 0, 0, 165, 0)
  | 165 => (3, 10, 0, 167, 0)
  | 167 => (1, 3, 0, 168, 0)
  | 168 => (0, 4, 0, 170, 0)
  | 170 => (0, 7, 0, 172, 0)
  | 172 => (8, 0, 0, 173, 0)
  | 173 => (0, 8, 0, 175, 0)
  | 175 => (8, 0, 0, 176, 0)
  | 176 => (48, 0, 0, 177, 0)
  | 177 => (0, 9, 0, 179, 0)
  | 179 => (13, 0, 0, 180, 0)
  | 180 => (3, 11, 0, 182, 0)
  | 182 => (0, 10, 0, 184, 0)
  | 184 => (0, 11, 0, 186, 0)
  | 186 => (43, 193, 0, 189, 0)
  | 189 => (6, 0, 0, 190, (-1))
  | 190 => (33, 205, 0, 193, 0)
  | 193 => (0, 10, 0, 195, 0)
  | 195 => (0, 11, 0, 197, 0)
  | 197 => (45, 204, 0, 200, 0)
  | 200 => (6, 0, 0, 201, 1)
  | 201 => (33, 205, 0, 204, 0)
  | 204 => (6, 0, 0, 205, 0)
  | 205 => (3, 6, 0, 207, 0)
  | 207 => (7, 8, 0, 210, 1)
  | 210 => (33, 100, 0, 213, 0)
  | 213 => (0, 6, 0, 215, 0)
  | 215 => (34, 238, 0, 218, 0)
  | 218 => (1, 0, 0, 219, 0)
  | 219 => (46, 10, 7, 222, 0)
  | 222 => (0, 5, 0, 224, 0)
  | 224 => (50, 0, 0, 225, 0)
  | 225 => (34, 235, 0, 228, 0)
  | 228 => (6, 0, 0, 229, 0)
  | 229 => (0, 6, 0, 231, 0)
  | 231 => (9, 0, 0, 232, 0)
  | 232 => (33, 237, 0, 235, 0)
  | 235 => (0, 6, 0, 237, 0)
  | 237 => (53, 0, 0, 238, 0)
  | 238 => (7, 5, 0, 241, 1)
  | 241 => (33, 3, 0, 244, 0)
  | 244 => (6, 0, 0, 245, 0)
  | 245 => (53, 0, 0, 246, 0)
  | _ => (99, 0, 0, 0, 0)
def tX9_ordered (pc : Nat) : zI := if pc < 246 then tmX9_ordered pc else (99, 0, 0, 0, 0)
theorem tkX9_ordered : z_tab RX9 wsX9_ordered 12 (some .int) cX9_ordered 246 tX9_ordered := z_tab_of (tm := tmX9_ordered) (by decide +kernel)
theorem sX9_ordered_0 (lv : zL) (st : List Value) (w : zW) (nx K : Nat → zL → List Value → zW → Prop) (Rt : Option Value → zW → Prop) : z_st1 (tX9_ordered 0) 0 lv st w nx K Rt = (nx 1 lv (.int (0 : Int32) :: st) w) := id rfl
theorem sX9_ordered_1 (lv : zL) (st : List Value) (w : zW) (nx K : Nat → zL → List Value → zW → Prop) (Rt : Option Value → zW → Prop) : z_st1 (tX9_ordered 1) 1 lv st w nx K Rt = (z_1i st (fun x r => z_ok1 lv 5 = true ∧ nx 3 (lv.set 5 (some (.int x))) r w)) := id rfl
theorem sX9_ordered_3 (lv : zL) (st : List Value) (w : zW) (nx K : Nat → zL → List Value → zW → Prop) (Rt : Option Value → zW → Prop) : z_st1 (tX9_ordered 3) 3 lv st w nx K Rt = (z_li lv 5 (fun x => nx 5 lv (.int x :: st) w)) := id rfl
theorem sX9_ordered_5 (lv : zL) (st : List Value) (w : zW) (nx K : Nat → zL → List Value → zW → Prop) (Rt : Option Value → zW → Prop) : z_st1 (tX9_ordered 5) 5 lv st w nx K Rt = (z_la lv 0 (fun x => nx 6 lv (.ref x :: st) w)) := id rfl
theorem sX9_ordered_6 (lv : zL) (st : List Value) (w : zW) (nx K : Nat → zL → List Value → zW → Prop) (Rt : Option Value → zW → Prop) : z_st1 (tX9_ordered 6) 6 lv st w nx K Rt = (z_1a st (fun x r => z_ob w x 10 (fun fs => z_fl fs 8 (fun u => nx 9 lv (u :: r) w)))) := id rfl
theorem sX9_ordered_9 (lv : zL) (st : List Value) (w : zW) (nx K : Nat → zL → List Value → zW → Prop) (Rt : Option Value → zW → Prop) : z_st1 (tX9_ordered 9) 9 lv st w nx K Rt = (z_2i st (fun x y r => (y ≤ x → nx 244 lv r w) ∧ (¬ y ≤ x → nx 12 lv r w))) := id rfl
theorem sX9_ordered_12 (lv : zL) (st : List Value) (w : zW) (nx K : Nat → zL → List Value → zW → Prop) (Rt : Option Value → zW → Prop) : z_st1 (tX9_ordered 12) 12 lv st w nx K Rt = (nx 13 lv (.int (0 : Int32) :: st) w) := id rfl
theorem sX9_ordered_13 (lv : zL) (st : List Value) (w : zW) (nx K : Nat → zL → List Value → zW → Prop) (Rt : Option Value → zW → Prop) : z_st1 (tX9_ordered 13) 13 lv st w nx K Rt = (z_1i st (fun x r => z_ok1 lv 6 = true ∧ nx 15 (lv.set 6 (some (.int x))) r w)) := id rfl
theorem sX9_ordered_15 (lv : zL) (st : List Value) (w : zW) (nx K : Nat → zL → List Value → zW → Prop) (Rt : Option Value → zW → Prop) : z_st1 (tX9_ordered 15) 15 lv st w nx K Rt = (z_la lv 0 (fun x => nx 16 lv (.ref x :: st) w)) := id rfl
theorem sX9_ordered_16 (lv : zL) (st : List Value) (w : zW) (nx K : Nat → zL → List Value → zW → Prop) (Rt : Option Value → zW → Prop) : z_st1 (tX9_ordered 16) 16 lv st w nx K Rt = (z_1a st (fun x r => z_ob w x 10 (fun fs => z_fl fs 4 (fun u => nx 19 lv (u :: r) w)))) := id rfl
theorem sX9_ordered_19 (lv : zL) (st : List Value) (w : zW) (nx K : Nat → zL → List Value → zW → Prop) (Rt : Option Value → zW → Prop) : z_st1 (tX9_ordered 19) 19 lv st w nx K Rt = (z_li lv 5 (fun x => nx 21 lv (.int x :: st) w)) := id rfl
theorem sX9_ordered_21 (lv : zL) (st : List Value) (w : zW) (nx K : Nat → zL → List Value → zW → Prop) (Rt : Option Value → zW → Prop) : z_st1 (tX9_ordered 21) 21 lv st w nx K Rt = (z_ia st (fun x i r => z_ar0 w x (fun m g => vp_in i m ∧ nx 22 lv (.int (g i.toNatClampNeg) :: r) w))) := id rfl
theorem sX9_ordered_22 (lv : zL) (st : List Value) (w : zW) (nx K : Nat → zL → List Value → zW → Prop) (Rt : Option Value → zW → Prop) : z_st1 (tX9_ordered 22) 22 lv st w nx K Rt = (z_1i st (fun x r => z_ok1 lv 7 = true ∧ nx 24 (lv.set 7 (some (.int x))) r w)) := id rfl
theorem sX9_ordered_24 (lv : zL) (st : List Value) (w : zW) (nx K : Nat → zL → List Value → zW → Prop) (Rt : Option Value → zW → Prop) : z_st1 (tX9_ordered 24) 24 lv st w nx K Rt = (z_la lv 0 (fun x => nx 25 lv (.ref x :: st) w)) := id rfl
theorem sX9_ordered_25 (lv : zL) (st : List Value) (w : zW) (nx K : Nat → zL → List Value → zW → Prop) (Rt : Option Value → zW → Prop) : z_st1 (tX9_ordered 25) 25 lv st w nx K Rt = (z_1a st (fun x r => z_ob w x 10 (fun fs => z_fl fs 6 (fun u => nx 28 lv (u :: r) w)))) := id rfl
theorem sX9_ordered_28 (lv : zL) (st : List Value) (w : zW) (nx K : Nat → zL → List Value → zW → Prop) (Rt : Option Value → zW → Prop) : z_st1 (tX9_ordered 28) 28 lv st w nx K Rt = (z_li lv 5 (fun x => nx 30 lv (.int x :: st) w)) := id rfl
theorem sX9_ordered_30 (lv : zL) (st : List Value) (w : zW) (nx K : Nat → zL → List Value → zW → Prop) (Rt : Option Value → zW → Prop) : z_st1 (tX9_ordered 30) 30 lv st w nx K Rt = (z_ia st (fun x i r => z_ar0 w x (fun m g => vp_in i m ∧ nx 31 lv (.int (g i.toNatClampNeg) :: r) w))) := id rfl
theorem sX9_ordered_31 (lv : zL) (st : List Value) (w : zW) (nx K : Nat → zL → List Value → zW → Prop) (Rt : Option Value → zW → Prop) : z_st1 (tX9_ordered 31) 31 lv st w nx K Rt = (nx 32 lv (.int (3 : Int32) :: st) w) := id rfl
theorem sX9_ordered_32 (lv : zL) (st : List Value) (w : zW) (nx K : Nat → zL → List Value → zW → Prop) (Rt : Option Value → zW → Prop) : z_st1 (tX9_ordered 32) 32 lv st w nx K Rt = (z_2i st (fun x y r => (¬ x = y → nx 97 lv r w) ∧ (x = y → nx 35 lv r w))) := id rfl
theorem sX9_ordered_35 (lv : zL) (st : List Value) (w : zW) (nx K : Nat → zL → List Value → zW → Prop) (Rt : Option Value → zW → Prop) : z_st1 (tX9_ordered 35) 35 lv st w nx K Rt = (z_la lv 1 (fun x => nx 36 lv (.ref x :: st) w)) := id rfl
theorem sX9_ordered_36 (lv : zL) (st : List Value) (w : zW) (nx K : Nat → zL → List Value → zW → Prop) (Rt : Option Value → zW → Prop) : z_st1 (tX9_ordered 36) 36 lv st w nx K Rt = (z_li lv 2 (fun x => nx 37 lv (.int x :: st) w)) := id rfl
theorem sX9_ordered_37 (lv : zL) (st : List Value) (w : zW) (nx K : Nat → zL → List Value → zW → Prop) (Rt : Option Value → zW → Prop) : z_st1 (tX9_ordered 37) 37 lv st w nx K Rt = (z_li lv 7 (fun x => nx 39 lv (.int x :: st) w)) := id rfl
theorem sX9_ordered_39 (lv : zL) (st : List Value) (w : zW) (nx K : Nat → zL → List Value → zW → Prop) (Rt : Option Value → zW → Prop) : z_st1 (tX9_ordered 39) 39 lv st w nx K Rt = (z_2i st (fun x y r => nx 40 lv (.int (x + y) :: r) w)) := id rfl
theorem sX9_ordered_40 (lv : zL) (st : List Value) (w : zW) (nx K : Nat → zL → List Value → zW → Prop) (Rt : Option Value → zW → Prop) : z_st1 (tX9_ordered 40) 40 lv st w nx K Rt = (z_la lv 0 (fun x => nx 41 lv (.ref x :: st) w)) := id rfl
theorem sX9_ordered_41 (lv : zL) (st : List Value) (w : zW) (nx K : Nat → zL → List Value → zW → Prop) (Rt : Option Value → zW → Prop) : z_st1 (tX9_ordered 41) 41 lv st w nx K Rt = (z_1a st (fun x r => z_ob w x 10 (fun fs => z_fl fs 5 (fun u => nx 44 lv (u :: r) w)))) := id rfl
theorem sX9_ordered_44 (lv : zL) (st : List Value) (w : zW) (nx K : Nat → zL → List Value → zW → Prop) (Rt : Option Value → zW → Prop) : z_st1 (tX9_ordered 44) 44 lv st w nx K Rt = (z_li lv 5 (fun x => nx 46 lv (.int x :: st) w)) := id rfl
theorem sX9_ordered_46 (lv : zL) (st : List Value) (w : zW) (nx K : Nat → zL → List Value → zW → Prop) (Rt : Option Value → zW → Prop) : z_st1 (tX9_ordered 46) 46 lv st w nx K Rt = (z_ia st (fun x i r => z_ar0 w x (fun m g => vp_in i m ∧ nx 47 lv (.int (g i.toNatClampNeg) :: r) w))) := id rfl
theorem sX9_ordered_50 (lv : zL) (st : List Value) (w : zW) (nx K : Nat → zL → List Value → zW → Prop) (Rt : Option Value → zW → Prop) : z_st1 (tX9_ordered 50) 50 lv st w nx K Rt = (z_1l st (fun x r => z_ok1 lv 8 = true ∧ nx 52 ((lv.set 8 (some (.long x))).set (8 + 1) none) r w)) := id rfl
theorem sX9_ordered_52 (lv : zL) (st : List Value) (w : zW) (nx K : Nat → zL → List Value → zW → Prop) (Rt : Option Value → zW → Prop) : z_st1 (tX9_ordered 52) 52 lv st w nx K Rt = (z_la lv 3 (fun x => nx 53 lv (.ref x :: st) w)) := id rfl
theorem sX9_ordered_53 (lv : zL) (st : List Value) (w : zW) (nx K : Nat → zL → List Value → zW → Prop) (Rt : Option Value → zW → Prop) : z_st1 (tX9_ordered 53) 53 lv st w nx K Rt = (z_li lv 4 (fun x => nx 55 lv (.int x :: st) w)) := id rfl
theorem sX9_ordered_55 (lv : zL) (st : List Value) (w : zW) (nx K : Nat → zL → List Value → zW → Prop) (Rt : Option Value → zW → Prop) : z_st1 (tX9_ordered 55) 55 lv st w nx K Rt = (z_li lv 7 (fun x => nx 57 lv (.int x :: st) w)) := id rfl
theorem sX9_ordered_57 (lv : zL) (st : List Value) (w : zW) (nx K : Nat → zL → List Value → zW → Prop) (Rt : Option Value → zW → Prop) : z_st1 (tX9_ordered 57) 57 lv st w nx K Rt = (z_2i st (fun x y r => nx 58 lv (.int (x + y) :: r) w)) := id rfl
theorem sX9_ordered_58 (lv : zL) (st : List Value) (w : zW) (nx K : Nat → zL → List Value → zW → Prop) (Rt : Option Value → zW → Prop) : z_st1 (tX9_ordered 58) 58 lv st w nx K Rt = (z_la lv 0 (fun x => nx 59 lv (.ref x :: st) w)) := id rfl
theorem sX9_ordered_59 (lv : zL) (st : List Value) (w : zW) (nx K : Nat → zL → List Value → zW → Prop) (Rt : Option Value → zW → Prop) : z_st1 (tX9_ordered 59) 59 lv st w nx K Rt = (z_1a st (fun x r => z_ob w x 10 (fun fs => z_fl fs 5 (fun u => nx 62 lv (u :: r) w)))) := id rfl
theorem sX9_ordered_62 (lv : zL) (st : List Value) (w : zW) (nx K : Nat → zL → List Value → zW → Prop) (Rt : Option Value → zW → Prop) : z_st1 (tX9_ordered 62) 62 lv st w nx K Rt = (z_li lv 5 (fun x => nx 64 lv (.int x :: st) w)) := id rfl
theorem sX9_ordered_64 (lv : zL) (st : List Value) (w : zW) (nx K : Nat → zL → List Value → zW → Prop) (Rt : Option Value → zW → Prop) : z_st1 (tX9_ordered 64) 64 lv st w nx K Rt = (z_ia st (fun x i r => z_ar0 w x (fun m g => vp_in i m ∧ nx 65 lv (.int (g i.toNatClampNeg) :: r) w))) := id rfl
theorem sX9_ordered_68 (lv : zL) (st : List Value) (w : zW) (nx K : Nat → zL → List Value → zW → Prop) (Rt : Option Value → zW → Prop) : z_st1 (tX9_ordered 68) 68 lv st w nx K Rt = (z_1l st (fun x r => z_ok1 lv 10 = true ∧ nx 70 ((lv.set 10 (some (.long x))).set (10 + 1) none) r w)) := id rfl
theorem sX9_ordered_70 (lv : zL) (st : List Value) (w : zW) (nx K : Nat → zL → List Value → zW → Prop) (Rt : Option Value → zW → Prop) : z_st1 (tX9_ordered 70) 70 lv st w nx K Rt = (z_ll lv 8 (fun x => nx 72 lv (.long x :: st) w)) := id rfl
theorem sX9_ordered_72 (lv : zL) (st : List Value) (w : zW) (nx K : Nat → zL → List Value → zW → Prop) (Rt : Option Value → zW → Prop) : z_st1 (tX9_ordered 72) 72 lv st w nx K Rt = (z_ll lv 10 (fun x => nx 74 lv (.long x :: st) w)) := id rfl
theorem sX9_ordered_74 (lv : zL) (st : List Value) (w : zW) (nx K : Nat → zL → List Value → zW → Prop) (Rt : Option Value → zW → Prop) : z_st1 (tX9_ordered 74) 74 lv st w nx K Rt = (z_2l st (fun x y r => nx 75 lv (.int (lg_cmp x y) :: r) w)) := id rfl
theorem sX9_ordered_75 (lv : zL) (st : List Value) (w : zW) (nx K : Nat → zL → List Value → zW → Prop) (Rt : Option Value → zW → Prop) : z_st1 (tX9_ordered 75) 75 lv st w nx K Rt = (z_1i st (fun x r => (0 ≤ x → nx 82 lv r w) ∧ (¬ 0 ≤ x → nx 78 lv r w))) := id rfl
theorem sX9_ordered_78 (lv : zL) (st : List Value) (w : zW) (nx K : Nat → zL → List Value → zW → Prop) (Rt : Option Value → zW → Prop) : z_st1 (tX9_ordered 78) 78 lv st w nx K Rt = (nx 79 lv (.int (-1 : Int32) :: st) w) := id rfl
theorem sX9_ordered_79 (lv : zL) (st : List Value) (w : zW) (nx K : Nat → zL → List Value → zW → Prop) (Rt : Option Value → zW → Prop) : z_st1 (tX9_ordered 79) 79 lv st w nx K Rt = (nx 95 lv st w) := id rfl
theorem sX9_ordered_82 (lv : zL) (st : List Value) (w : zW) (nx K : Nat → zL → List Value → zW → Prop) (Rt : Option Value → zW → Prop) : z_st1 (tX9_ordered 82) 82 lv st w nx K Rt = (z_ll lv 8 (fun x => nx 84 lv (.long x :: st) w)) := id rfl
theorem sX9_ordered_84 (lv : zL) (st : List Value) (w : zW) (nx K : Nat → zL → List Value → zW → Prop) (Rt : Option Value → zW → Prop) : z_st1 (tX9_ordered 84) 84 lv st w nx K Rt = (z_ll lv 10 (fun x => nx 86 lv (.long x :: st) w)) := id rfl
theorem sX9_ordered_86 (lv : zL) (st : List Value) (w : zW) (nx K : Nat → zL → List Value → zW → Prop) (Rt : Option Value → zW → Prop) : z_st1 (tX9_ordered 86) 86 lv st w nx K Rt = (z_2l st (fun x y r => nx 87 lv (.int (lg_cmp x y) :: r) w)) := id rfl
theorem sX9_ordered_87 (lv : zL) (st : List Value) (w : zW) (nx K : Nat → zL → List Value → zW → Prop) (Rt : Option Value → zW → Prop) : z_st1 (tX9_ordered 87) 87 lv st w nx K Rt = (z_1i st (fun x r => (x ≤ 0 → nx 94 lv r w) ∧ (¬ x ≤ 0 → nx 90 lv r w))) := id rfl
theorem sX9_ordered_90 (lv : zL) (st : List Value) (w : zW) (nx K : Nat → zL → List Value → zW → Prop) (Rt : Option Value → zW → Prop) : z_st1 (tX9_ordered 90) 90 lv st w nx K Rt = (nx 91 lv (.int (1 : Int32) :: st) w) := id rfl
theorem sX9_ordered_91 (lv : zL) (st : List Value) (w : zW) (nx K : Nat → zL → List Value → zW → Prop) (Rt : Option Value → zW → Prop) : z_st1 (tX9_ordered 91) 91 lv st w nx K Rt = (nx 95 lv st w) := id rfl
theorem sX9_ordered_94 (lv : zL) (st : List Value) (w : zW) (nx K : Nat → zL → List Value → zW → Prop) (Rt : Option Value → zW → Prop) : z_st1 (tX9_ordered 94) 94 lv st w nx K Rt = (nx 95 lv (.int (0 : Int32) :: st) w) := id rfl
theorem sX9_ordered_95 (lv : zL) (st : List Value) (w : zW) (nx K : Nat → zL → List Value → zW → Prop) (Rt : Option Value → zW → Prop) : z_st1 (tX9_ordered 95) 95 lv st w nx K Rt = (z_1i st (fun x r => z_ok1 lv 6 = true ∧ nx 97 (lv.set 6 (some (.int x))) r w)) := id rfl
theorem sX9_ordered_97 (lv : zL) (st : List Value) (w : zW) (nx K : Nat → zL → List Value → zW → Prop) (Rt : Option Value → zW → Prop) : z_st1 (tX9_ordered 97) 97 lv st w nx K Rt = (nx 98 lv (.int (0 : Int32) :: st) w) := id rfl
theorem sX9_ordered_98 (lv : zL) (st : List Value) (w : zW) (nx K : Nat → zL → List Value → zW → Prop) (Rt : Option Value → zW → Prop) : z_st1 (tX9_ordered 98) 98 lv st w nx K Rt = (z_1i st (fun x r => z_ok1 lv 8 = true ∧ nx 100 (lv.set 8 (some (.int x))) r w)) := id rfl
theorem sX9_ordered_100 (lv : zL) (st : List Value) (w : zW) (nx K : Nat → zL → List Value → zW → Prop) (Rt : Option Value → zW → Prop) : z_st1 (tX9_ordered 100) 100 lv st w nx K Rt = (z_li lv 8 (fun x => nx 102 lv (.int x :: st) w)) := id rfl
theorem sX9_ordered_102 (lv : zL) (st : List Value) (w : zW) (nx K : Nat → zL → List Value → zW → Prop) (Rt : Option Value → zW → Prop) : z_st1 (tX9_ordered 102) 102 lv st w nx K Rt = (z_la lv 0 (fun x => nx 103 lv (.ref x :: st) w)) := id rfl
theorem sX9_ordered_103 (lv : zL) (st : List Value) (w : zW) (nx K : Nat → zL → List Value → zW → Prop) (Rt : Option Value → zW → Prop) : z_st1 (tX9_ordered 103) 103 lv st w nx K Rt = (z_1a st (fun x r => z_ob w x 10 (fun fs => z_fl fs 5 (fun u => nx 106 lv (u :: r) w)))) := id rfl
theorem sX9_ordered_106 (lv : zL) (st : List Value) (w : zW) (nx K : Nat → zL → List Value → zW → Prop) (Rt : Option Value → zW → Prop) : z_st1 (tX9_ordered 106) 106 lv st w nx K Rt = (z_li lv 5 (fun x => nx 108 lv (.int x :: st) w)) := id rfl
theorem sX9_ordered_108 (lv : zL) (st : List Value) (w : zW) (nx K : Nat → zL → List Value → zW → Prop) (Rt : Option Value → zW → Prop) : z_st1 (tX9_ordered 108) 108 lv st w nx K Rt = (z_ia st (fun x i r => z_ar0 w x (fun m g => vp_in i m ∧ nx 109 lv (.int (g i.toNatClampNeg) :: r) w))) := id rfl
theorem sX9_ordered_109 (lv : zL) (st : List Value) (w : zW) (nx K : Nat → zL → List Value → zW → Prop) (Rt : Option Value → zW → Prop) : z_st1 (tX9_ordered 109) 109 lv st w nx K Rt = (z_2i st (fun x y r => (y ≤ x → nx 213 lv r w) ∧ (¬ y ≤ x → nx 112 lv r w))) := id rfl
theorem sX9_ordered_112 (lv : zL) (st : List Value) (w : zW) (nx K : Nat → zL → List Value → zW → Prop) (Rt : Option Value → zW → Prop) : z_st1 (tX9_ordered 112) 112 lv st w nx K Rt = (z_li lv 6 (fun x => nx 114 lv (.int x :: st) w)) := id rfl
theorem sX9_ordered_114 (lv : zL) (st : List Value) (w : zW) (nx K : Nat → zL → List Value → zW → Prop) (Rt : Option Value → zW → Prop) : z_st1 (tX9_ordered 114) 114 lv st w nx K Rt = (z_1i st (fun x r => (¬ x = 0 → nx 213 lv r w) ∧ (x = 0 → nx 117 lv r w))) := id rfl
theorem sX9_ordered_117 (lv : zL) (st : List Value) (w : zW) (nx K : Nat → zL → List Value → zW → Prop) (Rt : Option Value → zW → Prop) : z_st1 (tX9_ordered 117) 117 lv st w nx K Rt = (z_la lv 0 (fun x => nx 118 lv (.ref x :: st) w)) := id rfl
theorem sX9_ordered_118 (lv : zL) (st : List Value) (w : zW) (nx K : Nat → zL → List Value → zW → Prop) (Rt : Option Value → zW → Prop) : z_st1 (tX9_ordered 118) 118 lv st w nx K Rt = (z_1a st (fun x r => z_ob w x 10 (fun fs => z_fl fs 6 (fun u => nx 121 lv (u :: r) w)))) := id rfl
theorem sX9_ordered_121 (lv : zL) (st : List Value) (w : zW) (nx K : Nat → zL → List Value → zW → Prop) (Rt : Option Value → zW → Prop) : z_st1 (tX9_ordered 121) 121 lv st w nx K Rt = (z_li lv 5 (fun x => nx 123 lv (.int x :: st) w)) := id rfl
theorem sX9_ordered_123 (lv : zL) (st : List Value) (w : zW) (nx K : Nat → zL → List Value → zW → Prop) (Rt : Option Value → zW → Prop) : z_st1 (tX9_ordered 123) 123 lv st w nx K Rt = (z_ia st (fun x i r => z_ar0 w x (fun m g => vp_in i m ∧ nx 124 lv (.int (g i.toNatClampNeg) :: r) w))) := id rfl
theorem sX9_ordered_124 (lv : zL) (st : List Value) (w : zW) (nx K : Nat → zL → List Value → zW → Prop) (Rt : Option Value → zW → Prop) : z_st1 (tX9_ordered 124) 124 lv st w nx K Rt = (nx 125 lv (.int (3 : Int32) :: st) w) := id rfl
theorem sX9_ordered_125 (lv : zL) (st : List Value) (w : zW) (nx K : Nat → zL → List Value → zW → Prop) (Rt : Option Value → zW → Prop) : z_st1 (tX9_ordered 125) 125 lv st w nx K Rt = (z_2i st (fun x y r => (x = y → nx 213 lv r w) ∧ (¬ x = y → nx 128 lv r w))) := id rfl
theorem sX9_ordered_128 (lv : zL) (st : List Value) (w : zW) (nx K : Nat → zL → List Value → zW → Prop) (Rt : Option Value → zW → Prop) : z_st1 (tX9_ordered 128) 128 lv st w nx K Rt = (z_li lv 8 (fun x => nx 130 lv (.int x :: st) w)) := id rfl
theorem sX9_ordered_130 (lv : zL) (st : List Value) (w : zW) (nx K : Nat → zL → List Value → zW → Prop) (Rt : Option Value → zW → Prop) : z_st1 (tX9_ordered 130) 130 lv st w nx K Rt = (z_1i st (fun x r => (¬ x = 0 → nx 150 lv r w) ∧ (x = 0 → nx 133 lv r w))) := id rfl
theorem sX9_ordered_133 (lv : zL) (st : List Value) (w : zW) (nx K : Nat → zL → List Value → zW → Prop) (Rt : Option Value → zW → Prop) : z_st1 (tX9_ordered 133) 133 lv st w nx K Rt = (z_la lv 0 (fun x => nx 134 lv (.ref x :: st) w)) := id rfl
theorem sX9_ordered_134 (lv : zL) (st : List Value) (w : zW) (nx K : Nat → zL → List Value → zW → Prop) (Rt : Option Value → zW → Prop) : z_st1 (tX9_ordered 134) 134 lv st w nx K Rt = (z_1a st (fun x r => z_ob w x 10 (fun fs => z_fl fs 6 (fun u => nx 137 lv (u :: r) w)))) := id rfl
theorem sX9_ordered_137 (lv : zL) (st : List Value) (w : zW) (nx K : Nat → zL → List Value → zW → Prop) (Rt : Option Value → zW → Prop) : z_st1 (tX9_ordered 137) 137 lv st w nx K Rt = (z_li lv 5 (fun x => nx 139 lv (.int x :: st) w)) := id rfl
theorem sX9_ordered_139 (lv : zL) (st : List Value) (w : zW) (nx K : Nat → zL → List Value → zW → Prop) (Rt : Option Value → zW → Prop) : z_st1 (tX9_ordered 139) 139 lv st w nx K Rt = (z_ia st (fun x i r => z_ar0 w x (fun m g => vp_in i m ∧ nx 140 lv (.int (g i.toNatClampNeg) :: r) w))) := id rfl
theorem sX9_ordered_140 (lv : zL) (st : List Value) (w : zW) (nx K : Nat → zL → List Value → zW → Prop) (Rt : Option Value → zW → Prop) : z_st1 (tX9_ordered 140) 140 lv st w nx K Rt = (nx 141 lv (.int (2 : Int32) :: st) w) := id rfl
theorem sX9_ordered_141 (lv : zL) (st : List Value) (w : zW) (nx K : Nat → zL → List Value → zW → Prop) (Rt : Option Value → zW → Prop) : z_st1 (tX9_ordered 141) 141 lv st w nx K Rt = (z_2i st (fun x y r => (¬ x = y → nx 150 lv r w) ∧ (x = y → nx 144 lv r w))) := id rfl
theorem sX9_ordered_144 (lv : zL) (st : List Value) (w : zW) (nx K : Nat → zL → List Value → zW → Prop) (Rt : Option Value → zW → Prop) : z_st1 (tX9_ordered 144) 144 lv st w nx K Rt = (nx 147 lv (.int (128 : Int32) :: st) w) := id rfl
theorem sX9_ordered_147 (lv : zL) (st : List Value) (w : zW) (nx K : Nat → zL → List Value → zW → Prop) (Rt : Option Value → zW → Prop) : z_st1 (tX9_ordered 147) 147 lv st w nx K Rt = (nx 151 lv st w) := id rfl
theorem sX9_ordered_150 (lv : zL) (st : List Value) (w : zW) (nx K : Nat → zL → List Value → zW → Prop) (Rt : Option Value → zW → Prop) : z_st1 (tX9_ordered 150) 150 lv st w nx K Rt = (nx 151 lv (.int (0 : Int32) :: st) w) := id rfl
theorem sX9_ordered_151 (lv : zL) (st : List Value) (w : zW) (nx K : Nat → zL → List Value → zW → Prop) (Rt : Option Value → zW → Prop) : z_st1 (tX9_ordered 151) 151 lv st w nx K Rt = (z_1i st (fun x r => z_ok1 lv 9 = true ∧ nx 153 (lv.set 9 (some (.int x))) r w)) := id rfl
theorem sX9_ordered_153 (lv : zL) (st : List Value) (w : zW) (nx K : Nat → zL → List Value → zW → Prop) (Rt : Option Value → zW → Prop) : z_st1 (tX9_ordered 153) 153 lv st w nx K Rt = (z_la lv 1 (fun x => nx 154 lv (.ref x :: st) w)) := id rfl
theorem sX9_ordered_154 (lv : zL) (st : List Value) (w : zW) (nx K : Nat → zL → List Value → zW → Prop) (Rt : Option Value → zW → Prop) : z_st1 (tX9_ordered 154) 154 lv st w nx K Rt = (z_li lv 2 (fun x => nx 155 lv (.int x :: st) w)) := id rfl
theorem sX9_ordered_155 (lv : zL) (st : List Value) (w : zW) (nx K : Nat → zL → List Value → zW → Prop) (Rt : Option Value → zW → Prop) : z_st1 (tX9_ordered 155) 155 lv st w nx K Rt = (z_li lv 7 (fun x => nx 157 lv (.int x :: st) w)) := id rfl
theorem sX9_ordered_157 (lv : zL) (st : List Value) (w : zW) (nx K : Nat → zL → List Value → zW → Prop) (Rt : Option Value → zW → Prop) : z_st1 (tX9_ordered 157) 157 lv st w nx K Rt = (z_2i st (fun x y r => nx 158 lv (.int (x + y) :: r) w)) := id rfl
theorem sX9_ordered_158 (lv : zL) (st : List Value) (w : zW) (nx K : Nat → zL → List Value → zW → Prop) (Rt : Option Value → zW → Prop) : z_st1 (tX9_ordered 158) 158 lv st w nx K Rt = (z_li lv 8 (fun x => nx 160 lv (.int x :: st) w)) := id rfl
theorem sX9_ordered_160 (lv : zL) (st : List Value) (w : zW) (nx K : Nat → zL → List Value → zW → Prop) (Rt : Option Value → zW → Prop) : z_st1 (tX9_ordered 160) 160 lv st w nx K Rt = (z_2i st (fun x y r => nx 161 lv (.int (x + y) :: r) w)) := id rfl
theorem sX9_ordered_161 (lv : zL) (st : List Value) (w : zW) (nx K : Nat → zL → List Value → zW → Prop) (Rt : Option Value → zW → Prop) : z_st1 (tX9_ordered 161) 161 lv st w nx K Rt = (z_ia st (fun x i r => z_ar0 w x (fun m g => vp_in i m ∧ nx 162 lv (.int (g i.toNatClampNeg) :: r) w))) := id rfl
theorem sX9_ordered_162 (lv : zL) (st : List Value) (w : zW) (nx K : Nat → zL → List Value → zW → Prop) (Rt : Option Value → zW → Prop) : z_st1 (tX9_ordered 162) 162 lv st w nx K Rt = (z_li lv 9 (fun x => nx 164 lv (.int x :: st) w)) := id rfl
theorem sX9_ordered_164 (lv : zL) (st : List Value) (w : zW) (nx K : Nat → zL → List Value → zW → Prop) (Rt : Option Value → zW → Prop) : z_st1 (tX9_ordered 164) 164 lv st w nx K Rt = (z_2i st (fun x y r => nx 165 lv (.int (x ^^^ y) :: r) w)) := id rfl
theorem sX9_ordered_165 (lv : zL) (st : List Value) (w : zW) (nx K : Nat → zL → List Value → zW → Prop) (Rt : Option Value → zW → Prop) : z_st1 (tX9_ordered 165) 165 lv st w nx K Rt = (z_1i st (fun x r => z_ok1 lv 10 = true ∧ nx 167 (lv.set 10 (some (.int x))) r w)) := id rfl
theorem sX9_ordered_167 (lv : zL) (st : List Value) (w : zW) (nx K : Nat → zL → List Value → zW → Prop) (Rt : Option Value → zW → Prop) : z_st1 (tX9_ordered 167) 167 lv st w nx K Rt = (z_la lv 3 (fun x => nx 168 lv (.ref x :: st) w)) := id rfl
theorem sX9_ordered_168 (lv : zL) (st : List Value) (w : zW) (nx K : Nat → zL → List Value → zW → Prop) (Rt : Option Value → zW → Prop) : z_st1 (tX9_ordered 168) 168 lv st w nx K Rt = (z_li lv 4 (fun x => nx 170 lv (.int x :: st) w)) := id rfl
theorem sX9_ordered_170 (lv : zL) (st : List Value) (w : zW) (nx K : Nat → zL → List Value → zW → Prop) (Rt : Option Value → zW → Prop) : z_st1 (tX9_ordered 170) 170 lv st w nx K Rt = (z_li lv 7 (fun x => nx 172 lv (.int x :: st) w)) := id rfl
theorem sX9_ordered_172 (lv : zL) (st : List Value) (w : zW) (nx K : Nat → zL → List Value → zW → Prop) (Rt : Option Value → zW → Prop) : z_st1 (tX9_ordered 172) 172 lv st w nx K Rt = (z_2i st (fun x y r => nx 173 lv (.int (x + y) :: r) w)) := id rfl
theorem sX9_ordered_173 (lv : zL) (st : List Value) (w : zW) (nx K : Nat → zL → List Value → zW → Prop) (Rt : Option Value → zW → Prop) : z_st1 (tX9_ordered 173) 173 lv st w nx K Rt = (z_li lv 8 (fun x => nx 175 lv (.int x :: st) w)) := id rfl
theorem sX9_ordered_175 (lv : zL) (st : List Value) (w : zW) (nx K : Nat → zL → List Value → zW → Prop) (Rt : Option Value → zW → Prop) : z_st1 (tX9_ordered 175) 175 lv st w nx K Rt = (z_2i st (fun x y r => nx 176 lv (.int (x + y) :: r) w)) := id rfl
theorem sX9_ordered_176 (lv : zL) (st : List Value) (w : zW) (nx K : Nat → zL → List Value → zW → Prop) (Rt : Option Value → zW → Prop) : z_st1 (tX9_ordered 176) 176 lv st w nx K Rt = (z_ia st (fun x i r => z_ar0 w x (fun m g => vp_in i m ∧ nx 177 lv (.int (g i.toNatClampNeg) :: r) w))) := id rfl
theorem sX9_ordered_177 (lv : zL) (st : List Value) (w : zW) (nx K : Nat → zL → List Value → zW → Prop) (Rt : Option Value → zW → Prop) : z_st1 (tX9_ordered 177) 177 lv st w nx K Rt = (z_li lv 9 (fun x => nx 179 lv (.int x :: st) w)) := id rfl
theorem sX9_ordered_179 (lv : zL) (st : List Value) (w : zW) (nx K : Nat → zL → List Value → zW → Prop) (Rt : Option Value → zW → Prop) : z_st1 (tX9_ordered 179) 179 lv st w nx K Rt = (z_2i st (fun x y r => nx 180 lv (.int (x ^^^ y) :: r) w)) := id rfl
theorem sX9_ordered_180 (lv : zL) (st : List Value) (w : zW) (nx K : Nat → zL → List Value → zW → Prop) (Rt : Option Value → zW → Prop) : z_st1 (tX9_ordered 180) 180 lv st w nx K Rt = (z_1i st (fun x r => z_ok1 lv 11 = true ∧ nx 182 (lv.set 11 (some (.int x))) r w)) := id rfl
theorem sX9_ordered_182 (lv : zL) (st : List Value) (w : zW) (nx K : Nat → zL → List Value → zW → Prop) (Rt : Option Value → zW → Prop) : z_st1 (tX9_ordered 182) 182 lv st w nx K Rt = (z_li lv 10 (fun x => nx 184 lv (.int x :: st) w)) := id rfl
theorem sX9_ordered_184 (lv : zL) (st : List Value) (w : zW) (nx K : Nat → zL → List Value → zW → Prop) (Rt : Option Value → zW → Prop) : z_st1 (tX9_ordered 184) 184 lv st w nx K Rt = (z_li lv 11 (fun x => nx 186 lv (.int x :: st) w)) := id rfl
theorem sX9_ordered_186 (lv : zL) (st : List Value) (w : zW) (nx K : Nat → zL → List Value → zW → Prop) (Rt : Option Value → zW → Prop) : z_st1 (tX9_ordered 186) 186 lv st w nx K Rt = (z_2i st (fun x y r => (y ≤ x → nx 193 lv r w) ∧ (¬ y ≤ x → nx 189 lv r w))) := id rfl
theorem sX9_ordered_189 (lv : zL) (st : List Value) (w : zW) (nx K : Nat → zL → List Value → zW → Prop) (Rt : Option Value → zW → Prop) : z_st1 (tX9_ordered 189) 189 lv st w nx K Rt = (nx 190 lv (.int (-1 : Int32) :: st) w) := id rfl
theorem sX9_ordered_190 (lv : zL) (st : List Value) (w : zW) (nx K : Nat → zL → List Value → zW → Prop) (Rt : Option Value → zW → Prop) : z_st1 (tX9_ordered 190) 190 lv st w nx K Rt = (nx 205 lv st w) := id rfl
theorem sX9_ordered_193 (lv : zL) (st : List Value) (w : zW) (nx K : Nat → zL → List Value → zW → Prop) (Rt : Option Value → zW → Prop) : z_st1 (tX9_ordered 193) 193 lv st w nx K Rt = (z_li lv 10 (fun x => nx 195 lv (.int x :: st) w)) := id rfl
theorem sX9_ordered_195 (lv : zL) (st : List Value) (w : zW) (nx K : Nat → zL → List Value → zW → Prop) (Rt : Option Value → zW → Prop) : z_st1 (tX9_ordered 195) 195 lv st w nx K Rt = (z_li lv 11 (fun x => nx 197 lv (.int x :: st) w)) := id rfl
theorem sX9_ordered_197 (lv : zL) (st : List Value) (w : zW) (nx K : Nat → zL → List Value → zW → Prop) (Rt : Option Value → zW → Prop) : z_st1 (tX9_ordered 197) 197 lv st w nx K Rt = (z_2i st (fun x y r => (x ≤ y → nx 204 lv r w) ∧ (¬ x ≤ y → nx 200 lv r w))) := id rfl
theorem sX9_ordered_200 (lv : zL) (st : List Value) (w : zW) (nx K : Nat → zL → List Value → zW → Prop) (Rt : Option Value → zW → Prop) : z_st1 (tX9_ordered 200) 200 lv st w nx K Rt = (nx 201 lv (.int (1 : Int32) :: st) w) := id rfl
theorem sX9_ordered_201 (lv : zL) (st : List Value) (w : zW) (nx K : Nat → zL → List Value → zW → Prop) (Rt : Option Value → zW → Prop) : z_st1 (tX9_ordered 201) 201 lv st w nx K Rt = (nx 205 lv st w) := id rfl
theorem sX9_ordered_204 (lv : zL) (st : List Value) (w : zW) (nx K : Nat → zL → List Value → zW → Prop) (Rt : Option Value → zW → Prop) : z_st1 (tX9_ordered 204) 204 lv st w nx K Rt = (nx 205 lv (.int (0 : Int32) :: st) w) := id rfl
theorem sX9_ordered_205 (lv : zL) (st : List Value) (w : zW) (nx K : Nat → zL → List Value → zW → Prop) (Rt : Option Value → zW → Prop) : z_st1 (tX9_ordered 205) 205 lv st w nx K Rt = (z_1i st (fun x r => z_ok1 lv 6 = true ∧ nx 207 (lv.set 6 (some (.int x))) r w)) := id rfl
theorem sX9_ordered_207 (lv : zL) (st : List Value) (w : zW) (nx K : Nat → zL → List Value → zW → Prop) (Rt : Option Value → zW → Prop) : z_st1 (tX9_ordered 207) 207 lv st w nx K Rt = (z_li lv 8 (fun x => z_ok1 lv 8 = true ∧ nx 210 (lv.set 8 (some (.int (x + (1 : Int32))))) st w)) := id rfl
theorem sX9_ordered_210 (lv : zL) (st : List Value) (w : zW) (nx K : Nat → zL → List Value → zW → Prop) (Rt : Option Value → zW → Prop) : z_st1 (tX9_ordered 210) 210 lv st w nx K Rt = (nx 100 lv st w) := id rfl
theorem sX9_ordered_213 (lv : zL) (st : List Value) (w : zW) (nx K : Nat → zL → List Value → zW → Prop) (Rt : Option Value → zW → Prop) : z_st1 (tX9_ordered 213) 213 lv st w nx K Rt = (z_li lv 6 (fun x => nx 215 lv (.int x :: st) w)) := id rfl
theorem sX9_ordered_215 (lv : zL) (st : List Value) (w : zW) (nx K : Nat → zL → List Value → zW → Prop) (Rt : Option Value → zW → Prop) : z_st1 (tX9_ordered 215) 215 lv st w nx K Rt = (z_1i st (fun x r => (x = 0 → nx 238 lv r w) ∧ (¬ x = 0 → nx 218 lv r w))) := id rfl
theorem sX9_ordered_218 (lv : zL) (st : List Value) (w : zW) (nx K : Nat → zL → List Value → zW → Prop) (Rt : Option Value → zW → Prop) : z_st1 (tX9_ordered 218) 218 lv st w nx K Rt = (z_la lv 0 (fun x => nx 219 lv (.ref x :: st) w)) := id rfl
theorem sX9_ordered_219 (lv : zL) (st : List Value) (w : zW) (nx K : Nat → zL → List Value → zW → Prop) (Rt : Option Value → zW → Prop) : z_st1 (tX9_ordered 219) 219 lv st w nx K Rt = (z_1a st (fun x r => z_ob w x 10 (fun fs => z_fl fs 7 (fun u => nx 222 lv (u :: r) w)))) := id rfl
theorem sX9_ordered_222 (lv : zL) (st : List Value) (w : zW) (nx K : Nat → zL → List Value → zW → Prop) (Rt : Option Value → zW → Prop) : z_st1 (tX9_ordered 222) 222 lv st w nx K Rt = (z_li lv 5 (fun x => nx 224 lv (.int x :: st) w)) := id rfl
theorem sX9_ordered_224 (lv : zL) (st : List Value) (w : zW) (nx K : Nat → zL → List Value → zW → Prop) (Rt : Option Value → zW → Prop) : z_st1 (tX9_ordered 224) 224 lv st w nx K Rt = (z_ia st (fun x i r => z_ar1 w x (fun m g => vp_in i m ∧ nx 225 lv (.int (g i.toNatClampNeg) :: r) w))) := id rfl
theorem sX9_ordered_225 (lv : zL) (st : List Value) (w : zW) (nx K : Nat → zL → List Value → zW → Prop) (Rt : Option Value → zW → Prop) : z_st1 (tX9_ordered 225) 225 lv st w nx K Rt = (z_1i st (fun x r => (x = 0 → nx 235 lv r w) ∧ (¬ x = 0 → nx 228 lv r w))) := id rfl
theorem sX9_ordered_228 (lv : zL) (st : List Value) (w : zW) (nx K : Nat → zL → List Value → zW → Prop) (Rt : Option Value → zW → Prop) : z_st1 (tX9_ordered 228) 228 lv st w nx K Rt = (nx 229 lv (.int (0 : Int32) :: st) w) := id rfl
theorem sX9_ordered_229 (lv : zL) (st : List Value) (w : zW) (nx K : Nat → zL → List Value → zW → Prop) (Rt : Option Value → zW → Prop) : z_st1 (tX9_ordered 229) 229 lv st w nx K Rt = (z_li lv 6 (fun x => nx 231 lv (.int x :: st) w)) := id rfl
theorem sX9_ordered_231 (lv : zL) (st : List Value) (w : zW) (nx K : Nat → zL → List Value → zW → Prop) (Rt : Option Value → zW → Prop) : z_st1 (tX9_ordered 231) 231 lv st w nx K Rt = (z_2i st (fun x y r => nx 232 lv (.int (x - y) :: r) w)) := id rfl
theorem sX9_ordered_232 (lv : zL) (st : List Value) (w : zW) (nx K : Nat → zL → List Value → zW → Prop) (Rt : Option Value → zW → Prop) : z_st1 (tX9_ordered 232) 232 lv st w nx K Rt = (nx 237 lv st w) := id rfl
theorem sX9_ordered_235 (lv : zL) (st : List Value) (w : zW) (nx K : Nat → zL → List Value → zW → Prop) (Rt : Option Value → zW → Prop) : z_st1 (tX9_ordered 235) 235 lv st w nx K Rt = (z_li lv 6 (fun x => nx 237 lv (.int x :: st) w)) := id rfl
theorem sX9_ordered_237 (lv : zL) (st : List Value) (w : zW) (nx K : Nat → zL → List Value → zW → Prop) (Rt : Option Value → zW → Prop) : z_st1 (tX9_ordered 237) 237 lv st w nx K Rt = (z_e1 st (fun x => Rt (some (.int x)) w)) := id rfl
theorem sX9_ordered_238 (lv : zL) (st : List Value) (w : zW) (nx K : Nat → zL → List Value → zW → Prop) (Rt : Option Value → zW → Prop) : z_st1 (tX9_ordered 238) 238 lv st w nx K Rt = (z_li lv 5 (fun x => z_ok1 lv 5 = true ∧ nx 241 (lv.set 5 (some (.int (x + (1 : Int32))))) st w)) := id rfl
theorem sX9_ordered_241 (lv : zL) (st : List Value) (w : zW) (nx K : Nat → zL → List Value → zW → Prop) (Rt : Option Value → zW → Prop) : z_st1 (tX9_ordered 241) 241 lv st w nx K Rt = (nx 3 lv st w) := id rfl
theorem sX9_ordered_244 (lv : zL) (st : List Value) (w : zW) (nx K : Nat → zL → List Value → zW → Prop) (Rt : Option Value → zW → Prop) : z_st1 (tX9_ordered 244) 244 lv st w nx K Rt = (nx 245 lv (.int (0 : Int32) :: st) w) := id rfl
theorem sX9_ordered_245 (lv : zL) (st : List Value) (w : zW) (nx K : Nat → zL → List Value → zW → Prop) (Rt : Option Value → zW → Prop) : z_st1 (tX9_ordered 245) 245 lv st w nx K Rt = (z_e1 st (fun x => Rt (some (.int x)) w)) := id rfl
theorem sX9_ordered_47 (lv : zL) (st : List Value) (w : zW) (nx K : Nat → zL → List Value → zW → Prop) (Rt : Option Value → zW → Prop) : z_st1 (tX9_ordered 47) 47 lv st w nx K Rt = K 47 lv st w := id rfl
theorem sX9_ordered_65 (lv : zL) (st : List Value) (w : zW) (nx K : Nat → zL → List Value → zW → Prop) (Rt : Option Value → zW → Prop) : z_st1 (tX9_ordered 65) 65 lv st w nx K Rt = K 65 lv st w := id rfl
theorem dX9_ordered_47 : decode cX9_ordered 47 = .ok (.invokestatic 119, 3) := by decide +kernel
theorem dX9_ordered_65 : decode cX9_ordered 65 = .ok (.invokestatic 119, 3) := by decide +kernel

def tmX9_compare (pc : Nat) : zI := match pc with
  | 0 => (1, 0, 0, 1, 0)
  | 1 => (1, 0, 0, 2, 0)
  | 2 => (0, 1, 0, 3, 0)
  | 6 => (34, 21, 0, 9, 0)
  | 9 => (1, 0, 0, 10, 0)
  | 10 => (0, 2, 0, 11, 0)
  | 14 => (34, 21, 0, 17, 0)
  | 17 => (6, 0, 0, 18, 0)
  | 18 => (33, 22, 0, 21, 0)
  | 21 => (6, 0, 0, 22, 1)
  | 22 => (47, 10, 0, 25, 0)
  | 25 => (1, 0, 0, 26, 0)
  | 26 => (46, 10, 0, 29, 0)
  | 29 => (39, 36, 0, 32, 0)
  | 32 => (6, 0, 0, 33, 0)
  | 33 => (33, 60, 0, 36, 0)
  | 36 => (1, 0, 0, 37, 0)
  | 37 => (1, 0, 0, 38, 0)
  | 38 => (46, 10, 9, 41, 0)
  | 41 => (6, 0, 0, 43, 32)
  | 43 => (0, 1, 0, 44, 0)
  | 44 => (6, 0, 0, 45, 1)
  | 45 => (9, 0, 0, 46, 0)
  | 46 => (10, 0, 0, 47, 0)
  | 47 => (1, 0, 0, 48, 0)
  | 48 => (46, 10, 9, 51, 0)
  | 51 => (6, 0, 0, 53, 32)
  | 53 => (0, 2, 0, 54, 0)
  | 54 => (6, 0, 0, 55, 1)
  | 55 => (9, 0, 0, 56, 0)
  | 56 => (10, 0, 0, 57, 0)
  | 60 => (53, 0, 0, 61, 0)
  | _ => (99, 0, 0, 0, 0)
def tX9_compare (pc : Nat) : zI := if pc < 61 then tmX9_compare pc else (99, 0, 0, 0, 0)
theorem tkX9_compare : z_tab RX9 wsX9_compare 3 (some .int) cX9_compare 61 tX9_compare := z_tab_of (tm := tmX9_compare) (by decide +kernel)
theorem sX9_compare_0 (lv : zL) (st : List Value) (w : zW) (nx K : Nat → zL → List Value → zW → Prop) (Rt : Option Value → zW → Prop) : z_st1 (tX9_compare 0) 0 lv st w nx K Rt = (z_la lv 0 (fun x => nx 1 lv (.ref x :: st) w)) := id rfl
theorem sX9_compare_1 (lv : zL) (st : List Value) (w : zW) (nx K : Nat → zL → List Value → zW → Prop) (Rt : Option Value → zW → Prop) : z_st1 (tX9_compare 1) 1 lv st w nx K Rt = (z_la lv 0 (fun x => nx 2 lv (.ref x :: st) w)) := id rfl
theorem sX9_compare_2 (lv : zL) (st : List Value) (w : zW) (nx K : Nat → zL → List Value → zW → Prop) (Rt : Option Value → zW → Prop) : z_st1 (tX9_compare 2) 2 lv st w nx K Rt = (z_li lv 1 (fun x => nx 3 lv (.int x :: st) w)) := id rfl
theorem sX9_compare_6 (lv : zL) (st : List Value) (w : zW) (nx K : Nat → zL → List Value → zW → Prop) (Rt : Option Value → zW → Prop) : z_st1 (tX9_compare 6) 6 lv st w nx K Rt = (z_1i st (fun x r => (x = 0 → nx 21 lv r w) ∧ (¬ x = 0 → nx 9 lv r w))) := id rfl
theorem sX9_compare_9 (lv : zL) (st : List Value) (w : zW) (nx K : Nat → zL → List Value → zW → Prop) (Rt : Option Value → zW → Prop) : z_st1 (tX9_compare 9) 9 lv st w nx K Rt = (z_la lv 0 (fun x => nx 10 lv (.ref x :: st) w)) := id rfl
theorem sX9_compare_10 (lv : zL) (st : List Value) (w : zW) (nx K : Nat → zL → List Value → zW → Prop) (Rt : Option Value → zW → Prop) : z_st1 (tX9_compare 10) 10 lv st w nx K Rt = (z_li lv 2 (fun x => nx 11 lv (.int x :: st) w)) := id rfl
theorem sX9_compare_14 (lv : zL) (st : List Value) (w : zW) (nx K : Nat → zL → List Value → zW → Prop) (Rt : Option Value → zW → Prop) : z_st1 (tX9_compare 14) 14 lv st w nx K Rt = (z_1i st (fun x r => (x = 0 → nx 21 lv r w) ∧ (¬ x = 0 → nx 17 lv r w))) := id rfl
theorem sX9_compare_17 (lv : zL) (st : List Value) (w : zW) (nx K : Nat → zL → List Value → zW → Prop) (Rt : Option Value → zW → Prop) : z_st1 (tX9_compare 17) 17 lv st w nx K Rt = (nx 18 lv (.int (0 : Int32) :: st) w) := id rfl
theorem sX9_compare_18 (lv : zL) (st : List Value) (w : zW) (nx K : Nat → zL → List Value → zW → Prop) (Rt : Option Value → zW → Prop) : z_st1 (tX9_compare 18) 18 lv st w nx K Rt = (nx 22 lv st w) := id rfl
theorem sX9_compare_21 (lv : zL) (st : List Value) (w : zW) (nx K : Nat → zL → List Value → zW → Prop) (Rt : Option Value → zW → Prop) : z_st1 (tX9_compare 21) 21 lv st w nx K Rt = (nx 22 lv (.int (1 : Int32) :: st) w) := id rfl
theorem sX9_compare_22 (lv : zL) (st : List Value) (w : zW) (nx K : Nat → zL → List Value → zW → Prop) (Rt : Option Value → zW → Prop) : z_st1 (tX9_compare 22) 22 lv st w nx K Rt = (z_ia st (fun x i r => z_ob w x 10 (fun fs => 0 < fs.length ∧ nx 25 lv r (z_up w x (.inr (10, fs.set 0 (.int i))))))) := id rfl
theorem sX9_compare_25 (lv : zL) (st : List Value) (w : zW) (nx K : Nat → zL → List Value → zW → Prop) (Rt : Option Value → zW → Prop) : z_st1 (tX9_compare 25) 25 lv st w nx K Rt = (z_la lv 0 (fun x => nx 26 lv (.ref x :: st) w)) := id rfl
theorem sX9_compare_26 (lv : zL) (st : List Value) (w : zW) (nx K : Nat → zL → List Value → zW → Prop) (Rt : Option Value → zW → Prop) : z_st1 (tX9_compare 26) 26 lv st w nx K Rt = (z_1a st (fun x r => z_ob w x 10 (fun fs => z_fl fs 0 (fun u => nx 29 lv (u :: r) w)))) := id rfl
theorem sX9_compare_29 (lv : zL) (st : List Value) (w : zW) (nx K : Nat → zL → List Value → zW → Prop) (Rt : Option Value → zW → Prop) : z_st1 (tX9_compare 29) 29 lv st w nx K Rt = (z_1i st (fun x r => (x ≤ 0 → nx 36 lv r w) ∧ (¬ x ≤ 0 → nx 32 lv r w))) := id rfl
theorem sX9_compare_32 (lv : zL) (st : List Value) (w : zW) (nx K : Nat → zL → List Value → zW → Prop) (Rt : Option Value → zW → Prop) : z_st1 (tX9_compare 32) 32 lv st w nx K Rt = (nx 33 lv (.int (0 : Int32) :: st) w) := id rfl
theorem sX9_compare_33 (lv : zL) (st : List Value) (w : zW) (nx K : Nat → zL → List Value → zW → Prop) (Rt : Option Value → zW → Prop) : z_st1 (tX9_compare 33) 33 lv st w nx K Rt = (nx 60 lv st w) := id rfl
theorem sX9_compare_36 (lv : zL) (st : List Value) (w : zW) (nx K : Nat → zL → List Value → zW → Prop) (Rt : Option Value → zW → Prop) : z_st1 (tX9_compare 36) 36 lv st w nx K Rt = (z_la lv 0 (fun x => nx 37 lv (.ref x :: st) w)) := id rfl
theorem sX9_compare_37 (lv : zL) (st : List Value) (w : zW) (nx K : Nat → zL → List Value → zW → Prop) (Rt : Option Value → zW → Prop) : z_st1 (tX9_compare 37) 37 lv st w nx K Rt = (z_la lv 0 (fun x => nx 38 lv (.ref x :: st) w)) := id rfl
theorem sX9_compare_38 (lv : zL) (st : List Value) (w : zW) (nx K : Nat → zL → List Value → zW → Prop) (Rt : Option Value → zW → Prop) : z_st1 (tX9_compare 38) 38 lv st w nx K Rt = (z_1a st (fun x r => z_ob w x 10 (fun fs => z_fl fs 9 (fun u => nx 41 lv (u :: r) w)))) := id rfl
theorem sX9_compare_41 (lv : zL) (st : List Value) (w : zW) (nx K : Nat → zL → List Value → zW → Prop) (Rt : Option Value → zW → Prop) : z_st1 (tX9_compare 41) 41 lv st w nx K Rt = (nx 43 lv (.int (32 : Int32) :: st) w) := id rfl
theorem sX9_compare_43 (lv : zL) (st : List Value) (w : zW) (nx K : Nat → zL → List Value → zW → Prop) (Rt : Option Value → zW → Prop) : z_st1 (tX9_compare 43) 43 lv st w nx K Rt = (z_li lv 1 (fun x => nx 44 lv (.int x :: st) w)) := id rfl
theorem sX9_compare_44 (lv : zL) (st : List Value) (w : zW) (nx K : Nat → zL → List Value → zW → Prop) (Rt : Option Value → zW → Prop) : z_st1 (tX9_compare 44) 44 lv st w nx K Rt = (nx 45 lv (.int (1 : Int32) :: st) w) := id rfl
theorem sX9_compare_45 (lv : zL) (st : List Value) (w : zW) (nx K : Nat → zL → List Value → zW → Prop) (Rt : Option Value → zW → Prop) : z_st1 (tX9_compare 45) 45 lv st w nx K Rt = (z_2i st (fun x y r => nx 46 lv (.int (x - y) :: r) w)) := id rfl
theorem sX9_compare_46 (lv : zL) (st : List Value) (w : zW) (nx K : Nat → zL → List Value → zW → Prop) (Rt : Option Value → zW → Prop) : z_st1 (tX9_compare 46) 46 lv st w nx K Rt = (z_2i st (fun x y r => nx 47 lv (.int (x * y) :: r) w)) := id rfl
theorem sX9_compare_47 (lv : zL) (st : List Value) (w : zW) (nx K : Nat → zL → List Value → zW → Prop) (Rt : Option Value → zW → Prop) : z_st1 (tX9_compare 47) 47 lv st w nx K Rt = (z_la lv 0 (fun x => nx 48 lv (.ref x :: st) w)) := id rfl
theorem sX9_compare_48 (lv : zL) (st : List Value) (w : zW) (nx K : Nat → zL → List Value → zW → Prop) (Rt : Option Value → zW → Prop) : z_st1 (tX9_compare 48) 48 lv st w nx K Rt = (z_1a st (fun x r => z_ob w x 10 (fun fs => z_fl fs 9 (fun u => nx 51 lv (u :: r) w)))) := id rfl
theorem sX9_compare_51 (lv : zL) (st : List Value) (w : zW) (nx K : Nat → zL → List Value → zW → Prop) (Rt : Option Value → zW → Prop) : z_st1 (tX9_compare 51) 51 lv st w nx K Rt = (nx 53 lv (.int (32 : Int32) :: st) w) := id rfl
theorem sX9_compare_53 (lv : zL) (st : List Value) (w : zW) (nx K : Nat → zL → List Value → zW → Prop) (Rt : Option Value → zW → Prop) : z_st1 (tX9_compare 53) 53 lv st w nx K Rt = (z_li lv 2 (fun x => nx 54 lv (.int x :: st) w)) := id rfl
theorem sX9_compare_54 (lv : zL) (st : List Value) (w : zW) (nx K : Nat → zL → List Value → zW → Prop) (Rt : Option Value → zW → Prop) : z_st1 (tX9_compare 54) 54 lv st w nx K Rt = (nx 55 lv (.int (1 : Int32) :: st) w) := id rfl
theorem sX9_compare_55 (lv : zL) (st : List Value) (w : zW) (nx K : Nat → zL → List Value → zW → Prop) (Rt : Option Value → zW → Prop) : z_st1 (tX9_compare 55) 55 lv st w nx K Rt = (z_2i st (fun x y r => nx 56 lv (.int (x - y) :: r) w)) := id rfl
theorem sX9_compare_56 (lv : zL) (st : List Value) (w : zW) (nx K : Nat → zL → List Value → zW → Prop) (Rt : Option Value → zW → Prop) : z_st1 (tX9_compare 56) 56 lv st w nx K Rt = (z_2i st (fun x y r => nx 57 lv (.int (x * y) :: r) w)) := id rfl
theorem sX9_compare_60 (lv : zL) (st : List Value) (w : zW) (nx K : Nat → zL → List Value → zW → Prop) (Rt : Option Value → zW → Prop) : z_st1 (tX9_compare 60) 60 lv st w nx K Rt = (z_e1 st (fun x => Rt (some (.int x)) w)) := id rfl
theorem sX9_compare_3 (lv : zL) (st : List Value) (w : zW) (nx K : Nat → zL → List Value → zW → Prop) (Rt : Option Value → zW → Prop) : z_st1 (tX9_compare 3) 3 lv st w nx K Rt = K 3 lv st w := id rfl
theorem sX9_compare_11 (lv : zL) (st : List Value) (w : zW) (nx K : Nat → zL → List Value → zW → Prop) (Rt : Option Value → zW → Prop) : z_st1 (tX9_compare 11) 11 lv st w nx K Rt = K 11 lv st w := id rfl
theorem sX9_compare_57 (lv : zL) (st : List Value) (w : zW) (nx K : Nat → zL → List Value → zW → Prop) (Rt : Option Value → zW → Prop) : z_st1 (tX9_compare 57) 57 lv st w nx K Rt = K 57 lv st w := id rfl
theorem dX9_compare_3 : decode cX9_compare 3 = .ok (.invokevirtual 101, 3) := by decide +kernel
theorem dX9_compare_11 : decode cX9_compare 11 = .ok (.invokevirtual 101, 3) := by decide +kernel
theorem dX9_compare_57 : decode cX9_compare 57 = .ok (.invokevirtual 123, 3) := by decide +kernel

def tmX9_duplicate (pc : Nat) : zI := match pc with
  | 0 => (6, 0, 0, 1, 0)
  | 1 => (3, 2, 0, 2, 0)
  | 2 => (0, 2, 0, 3, 0)
  | 3 => (6, 0, 0, 5, 32)
  | 5 => (43, 41, 0, 8, 0)
  | 8 => (1, 0, 0, 9, 0)
  | 9 => (46, 10, 25, 12, 0)
  | 12 => (6, 0, 0, 14, 32)
  | 14 => (1, 0, 0, 15, 0)
  | 15 => (46, 10, 30, 18, 0)
  | 18 => (10, 0, 0, 19, 0)
  | 19 => (0, 2, 0, 20, 0)
  | 20 => (8, 0, 0, 21, 0)
  | 21 => (1, 0, 0, 22, 0)
  | 22 => (46, 10, 9, 25, 0)
  | 25 => (6, 0, 0, 27, 32)
  | 27 => (0, 1, 0, 28, 0)
  | 28 => (6, 0, 0, 29, 1)
  | 29 => (9, 0, 0, 30, 0)
  | 30 => (10, 0, 0, 31, 0)
  | 31 => (0, 2, 0, 32, 0)
  | 32 => (8, 0, 0, 33, 0)
  | 33 => (48, 0, 0, 34, 0)
  | 34 => (49, 0, 0, 35, 0)
  | 35 => (7, 2, 0, 38, 1)
  | 38 => (33, 2, 0, 41, 0)
  | 41 => (1, 0, 0, 42, 0)
  | 42 => (46, 10, 26, 45, 0)
  | 45 => (1, 0, 0, 46, 0)
  | 46 => (46, 10, 30, 49, 0)
  | 49 => (1, 0, 0, 50, 0)
  | 50 => (46, 10, 10, 53, 0)
  | 53 => (0, 1, 0, 54, 0)
  | 54 => (6, 0, 0, 55, 1)
  | 55 => (9, 0, 0, 56, 0)
  | 56 => (48, 0, 0, 57, 0)
  | 57 => (49, 0, 0, 58, 0)
  | 58 => (1, 0, 0, 59, 0)
  | 59 => (46, 10, 27, 62, 0)
  | 62 => (1, 0, 0, 63, 0)
  | 63 => (46, 10, 30, 66, 0)
  | 66 => (0, 1, 0, 67, 0)
  | 67 => (49, 0, 0, 68, 0)
  | 68 => (1, 0, 0, 69, 0)
  | 69 => (29, 0, 0, 70, 0)
  | 70 => (46, 10, 30, 73, 0)
  | 73 => (6, 0, 0, 74, 1)
  | 74 => (8, 0, 0, 75, 0)
  | 75 => (47, 10, 30, 78, 0)
  | 78 => (55, 0, 0, 79, 0)
  | _ => (99, 0, 0, 0, 0)
def tX9_duplicate (pc : Nat) : zI := if pc < 79 then tmX9_duplicate pc else (99, 0, 0, 0, 0)
theorem tkX9_duplicate : z_tab RX9 wsX9_duplicate 3 none cX9_duplicate 79 tX9_duplicate := z_tab_of (tm := tmX9_duplicate) (by decide +kernel)
theorem sX9_duplicate_0 (lv : zL) (st : List Value) (w : zW) (nx K : Nat → zL → List Value → zW → Prop) (Rt : Option Value → zW → Prop) : z_st1 (tX9_duplicate 0) 0 lv st w nx K Rt = (nx 1 lv (.int (0 : Int32) :: st) w) := id rfl
theorem sX9_duplicate_1 (lv : zL) (st : List Value) (w : zW) (nx K : Nat → zL → List Value → zW → Prop) (Rt : Option Value → zW → Prop) : z_st1 (tX9_duplicate 1) 1 lv st w nx K Rt = (z_1i st (fun x r => z_ok1 lv 2 = true ∧ nx 2 (lv.set 2 (some (.int x))) r w)) := id rfl
theorem sX9_duplicate_2 (lv : zL) (st : List Value) (w : zW) (nx K : Nat → zL → List Value → zW → Prop) (Rt : Option Value → zW → Prop) : z_st1 (tX9_duplicate 2) 2 lv st w nx K Rt = (z_li lv 2 (fun x => nx 3 lv (.int x :: st) w)) := id rfl
theorem sX9_duplicate_3 (lv : zL) (st : List Value) (w : zW) (nx K : Nat → zL → List Value → zW → Prop) (Rt : Option Value → zW → Prop) : z_st1 (tX9_duplicate 3) 3 lv st w nx K Rt = (nx 5 lv (.int (32 : Int32) :: st) w) := id rfl
theorem sX9_duplicate_5 (lv : zL) (st : List Value) (w : zW) (nx K : Nat → zL → List Value → zW → Prop) (Rt : Option Value → zW → Prop) : z_st1 (tX9_duplicate 5) 5 lv st w nx K Rt = (z_2i st (fun x y r => (y ≤ x → nx 41 lv r w) ∧ (¬ y ≤ x → nx 8 lv r w))) := id rfl
theorem sX9_duplicate_8 (lv : zL) (st : List Value) (w : zW) (nx K : Nat → zL → List Value → zW → Prop) (Rt : Option Value → zW → Prop) : z_st1 (tX9_duplicate 8) 8 lv st w nx K Rt = (z_la lv 0 (fun x => nx 9 lv (.ref x :: st) w)) := id rfl
theorem sX9_duplicate_9 (lv : zL) (st : List Value) (w : zW) (nx K : Nat → zL → List Value → zW → Prop) (Rt : Option Value → zW → Prop) : z_st1 (tX9_duplicate 9) 9 lv st w nx K Rt = (z_1a st (fun x r => z_ob w x 10 (fun fs => z_fl fs 25 (fun u => nx 12 lv (u :: r) w)))) := id rfl
theorem sX9_duplicate_12 (lv : zL) (st : List Value) (w : zW) (nx K : Nat → zL → List Value → zW → Prop) (Rt : Option Value → zW → Prop) : z_st1 (tX9_duplicate 12) 12 lv st w nx K Rt = (nx 14 lv (.int (32 : Int32) :: st) w) := id rfl
theorem sX9_duplicate_14 (lv : zL) (st : List Value) (w : zW) (nx K : Nat → zL → List Value → zW → Prop) (Rt : Option Value → zW → Prop) : z_st1 (tX9_duplicate 14) 14 lv st w nx K Rt = (z_la lv 0 (fun x => nx 15 lv (.ref x :: st) w)) := id rfl
theorem sX9_duplicate_15 (lv : zL) (st : List Value) (w : zW) (nx K : Nat → zL → List Value → zW → Prop) (Rt : Option Value → zW → Prop) : z_st1 (tX9_duplicate 15) 15 lv st w nx K Rt = (z_1a st (fun x r => z_ob w x 10 (fun fs => z_fl fs 30 (fun u => nx 18 lv (u :: r) w)))) := id rfl
theorem sX9_duplicate_18 (lv : zL) (st : List Value) (w : zW) (nx K : Nat → zL → List Value → zW → Prop) (Rt : Option Value → zW → Prop) : z_st1 (tX9_duplicate 18) 18 lv st w nx K Rt = (z_2i st (fun x y r => nx 19 lv (.int (x * y) :: r) w)) := id rfl
theorem sX9_duplicate_19 (lv : zL) (st : List Value) (w : zW) (nx K : Nat → zL → List Value → zW → Prop) (Rt : Option Value → zW → Prop) : z_st1 (tX9_duplicate 19) 19 lv st w nx K Rt = (z_li lv 2 (fun x => nx 20 lv (.int x :: st) w)) := id rfl
theorem sX9_duplicate_20 (lv : zL) (st : List Value) (w : zW) (nx K : Nat → zL → List Value → zW → Prop) (Rt : Option Value → zW → Prop) : z_st1 (tX9_duplicate 20) 20 lv st w nx K Rt = (z_2i st (fun x y r => nx 21 lv (.int (x + y) :: r) w)) := id rfl
theorem sX9_duplicate_21 (lv : zL) (st : List Value) (w : zW) (nx K : Nat → zL → List Value → zW → Prop) (Rt : Option Value → zW → Prop) : z_st1 (tX9_duplicate 21) 21 lv st w nx K Rt = (z_la lv 0 (fun x => nx 22 lv (.ref x :: st) w)) := id rfl
theorem sX9_duplicate_22 (lv : zL) (st : List Value) (w : zW) (nx K : Nat → zL → List Value → zW → Prop) (Rt : Option Value → zW → Prop) : z_st1 (tX9_duplicate 22) 22 lv st w nx K Rt = (z_1a st (fun x r => z_ob w x 10 (fun fs => z_fl fs 9 (fun u => nx 25 lv (u :: r) w)))) := id rfl
theorem sX9_duplicate_25 (lv : zL) (st : List Value) (w : zW) (nx K : Nat → zL → List Value → zW → Prop) (Rt : Option Value → zW → Prop) : z_st1 (tX9_duplicate 25) 25 lv st w nx K Rt = (nx 27 lv (.int (32 : Int32) :: st) w) := id rfl
theorem sX9_duplicate_27 (lv : zL) (st : List Value) (w : zW) (nx K : Nat → zL → List Value → zW → Prop) (Rt : Option Value → zW → Prop) : z_st1 (tX9_duplicate 27) 27 lv st w nx K Rt = (z_li lv 1 (fun x => nx 28 lv (.int x :: st) w)) := id rfl
theorem sX9_duplicate_28 (lv : zL) (st : List Value) (w : zW) (nx K : Nat → zL → List Value → zW → Prop) (Rt : Option Value → zW → Prop) : z_st1 (tX9_duplicate 28) 28 lv st w nx K Rt = (nx 29 lv (.int (1 : Int32) :: st) w) := id rfl
theorem sX9_duplicate_29 (lv : zL) (st : List Value) (w : zW) (nx K : Nat → zL → List Value → zW → Prop) (Rt : Option Value → zW → Prop) : z_st1 (tX9_duplicate 29) 29 lv st w nx K Rt = (z_2i st (fun x y r => nx 30 lv (.int (x - y) :: r) w)) := id rfl
theorem sX9_duplicate_30 (lv : zL) (st : List Value) (w : zW) (nx K : Nat → zL → List Value → zW → Prop) (Rt : Option Value → zW → Prop) : z_st1 (tX9_duplicate 30) 30 lv st w nx K Rt = (z_2i st (fun x y r => nx 31 lv (.int (x * y) :: r) w)) := id rfl
theorem sX9_duplicate_31 (lv : zL) (st : List Value) (w : zW) (nx K : Nat → zL → List Value → zW → Prop) (Rt : Option Value → zW → Prop) : z_st1 (tX9_duplicate 31) 31 lv st w nx K Rt = (z_li lv 2 (fun x => nx 32 lv (.int x :: st) w)) := id rfl
theorem sX9_duplicate_32 (lv : zL) (st : List Value) (w : zW) (nx K : Nat → zL → List Value → zW → Prop) (Rt : Option Value → zW → Prop) : z_st1 (tX9_duplicate 32) 32 lv st w nx K Rt = (z_2i st (fun x y r => nx 33 lv (.int (x + y) :: r) w)) := id rfl
theorem sX9_duplicate_33 (lv : zL) (st : List Value) (w : zW) (nx K : Nat → zL → List Value → zW → Prop) (Rt : Option Value → zW → Prop) : z_st1 (tX9_duplicate 33) 33 lv st w nx K Rt = (z_ia st (fun x i r => z_ar0 w x (fun m g => vp_in i m ∧ nx 34 lv (.int (g i.toNatClampNeg) :: r) w))) := id rfl
theorem sX9_duplicate_34 (lv : zL) (st : List Value) (w : zW) (nx K : Nat → zL → List Value → zW → Prop) (Rt : Option Value → zW → Prop) : z_st1 (tX9_duplicate 34) 34 lv st w nx K Rt = (z_iia st (fun x i u r => z_ar0 w x (fun m g => vp_in i m ∧ nx 35 lv r (z_up w x (.inl (0, m, .inl (upd g i.toNatClampNeg u))))))) := id rfl
theorem sX9_duplicate_35 (lv : zL) (st : List Value) (w : zW) (nx K : Nat → zL → List Value → zW → Prop) (Rt : Option Value → zW → Prop) : z_st1 (tX9_duplicate 35) 35 lv st w nx K Rt = (z_li lv 2 (fun x => z_ok1 lv 2 = true ∧ nx 38 (lv.set 2 (some (.int (x + (1 : Int32))))) st w)) := id rfl
theorem sX9_duplicate_38 (lv : zL) (st : List Value) (w : zW) (nx K : Nat → zL → List Value → zW → Prop) (Rt : Option Value → zW → Prop) : z_st1 (tX9_duplicate 38) 38 lv st w nx K Rt = (nx 2 lv st w) := id rfl
theorem sX9_duplicate_41 (lv : zL) (st : List Value) (w : zW) (nx K : Nat → zL → List Value → zW → Prop) (Rt : Option Value → zW → Prop) : z_st1 (tX9_duplicate 41) 41 lv st w nx K Rt = (z_la lv 0 (fun x => nx 42 lv (.ref x :: st) w)) := id rfl
theorem sX9_duplicate_42 (lv : zL) (st : List Value) (w : zW) (nx K : Nat → zL → List Value → zW → Prop) (Rt : Option Value → zW → Prop) : z_st1 (tX9_duplicate 42) 42 lv st w nx K Rt = (z_1a st (fun x r => z_ob w x 10 (fun fs => z_fl fs 26 (fun u => nx 45 lv (u :: r) w)))) := id rfl
theorem sX9_duplicate_45 (lv : zL) (st : List Value) (w : zW) (nx K : Nat → zL → List Value → zW → Prop) (Rt : Option Value → zW → Prop) : z_st1 (tX9_duplicate 45) 45 lv st w nx K Rt = (z_la lv 0 (fun x => nx 46 lv (.ref x :: st) w)) := id rfl
theorem sX9_duplicate_46 (lv : zL) (st : List Value) (w : zW) (nx K : Nat → zL → List Value → zW → Prop) (Rt : Option Value → zW → Prop) : z_st1 (tX9_duplicate 46) 46 lv st w nx K Rt = (z_1a st (fun x r => z_ob w x 10 (fun fs => z_fl fs 30 (fun u => nx 49 lv (u :: r) w)))) := id rfl
theorem sX9_duplicate_49 (lv : zL) (st : List Value) (w : zW) (nx K : Nat → zL → List Value → zW → Prop) (Rt : Option Value → zW → Prop) : z_st1 (tX9_duplicate 49) 49 lv st w nx K Rt = (z_la lv 0 (fun x => nx 50 lv (.ref x :: st) w)) := id rfl
theorem sX9_duplicate_50 (lv : zL) (st : List Value) (w : zW) (nx K : Nat → zL → List Value → zW → Prop) (Rt : Option Value → zW → Prop) : z_st1 (tX9_duplicate 50) 50 lv st w nx K Rt = (z_1a st (fun x r => z_ob w x 10 (fun fs => z_fl fs 10 (fun u => nx 53 lv (u :: r) w)))) := id rfl
theorem sX9_duplicate_53 (lv : zL) (st : List Value) (w : zW) (nx K : Nat → zL → List Value → zW → Prop) (Rt : Option Value → zW → Prop) : z_st1 (tX9_duplicate 53) 53 lv st w nx K Rt = (z_li lv 1 (fun x => nx 54 lv (.int x :: st) w)) := id rfl
theorem sX9_duplicate_54 (lv : zL) (st : List Value) (w : zW) (nx K : Nat → zL → List Value → zW → Prop) (Rt : Option Value → zW → Prop) : z_st1 (tX9_duplicate 54) 54 lv st w nx K Rt = (nx 55 lv (.int (1 : Int32) :: st) w) := id rfl
theorem sX9_duplicate_55 (lv : zL) (st : List Value) (w : zW) (nx K : Nat → zL → List Value → zW → Prop) (Rt : Option Value → zW → Prop) : z_st1 (tX9_duplicate 55) 55 lv st w nx K Rt = (z_2i st (fun x y r => nx 56 lv (.int (x - y) :: r) w)) := id rfl
theorem sX9_duplicate_56 (lv : zL) (st : List Value) (w : zW) (nx K : Nat → zL → List Value → zW → Prop) (Rt : Option Value → zW → Prop) : z_st1 (tX9_duplicate 56) 56 lv st w nx K Rt = (z_ia st (fun x i r => z_ar0 w x (fun m g => vp_in i m ∧ nx 57 lv (.int (g i.toNatClampNeg) :: r) w))) := id rfl
theorem sX9_duplicate_57 (lv : zL) (st : List Value) (w : zW) (nx K : Nat → zL → List Value → zW → Prop) (Rt : Option Value → zW → Prop) : z_st1 (tX9_duplicate 57) 57 lv st w nx K Rt = (z_iia st (fun x i u r => z_ar0 w x (fun m g => vp_in i m ∧ nx 58 lv r (z_up w x (.inl (0, m, .inl (upd g i.toNatClampNeg u))))))) := id rfl
theorem sX9_duplicate_58 (lv : zL) (st : List Value) (w : zW) (nx K : Nat → zL → List Value → zW → Prop) (Rt : Option Value → zW → Prop) : z_st1 (tX9_duplicate 58) 58 lv st w nx K Rt = (z_la lv 0 (fun x => nx 59 lv (.ref x :: st) w)) := id rfl
theorem sX9_duplicate_59 (lv : zL) (st : List Value) (w : zW) (nx K : Nat → zL → List Value → zW → Prop) (Rt : Option Value → zW → Prop) : z_st1 (tX9_duplicate 59) 59 lv st w nx K Rt = (z_1a st (fun x r => z_ob w x 10 (fun fs => z_fl fs 27 (fun u => nx 62 lv (u :: r) w)))) := id rfl
theorem sX9_duplicate_62 (lv : zL) (st : List Value) (w : zW) (nx K : Nat → zL → List Value → zW → Prop) (Rt : Option Value → zW → Prop) : z_st1 (tX9_duplicate 62) 62 lv st w nx K Rt = (z_la lv 0 (fun x => nx 63 lv (.ref x :: st) w)) := id rfl
theorem sX9_duplicate_63 (lv : zL) (st : List Value) (w : zW) (nx K : Nat → zL → List Value → zW → Prop) (Rt : Option Value → zW → Prop) : z_st1 (tX9_duplicate 63) 63 lv st w nx K Rt = (z_1a st (fun x r => z_ob w x 10 (fun fs => z_fl fs 30 (fun u => nx 66 lv (u :: r) w)))) := id rfl
theorem sX9_duplicate_66 (lv : zL) (st : List Value) (w : zW) (nx K : Nat → zL → List Value → zW → Prop) (Rt : Option Value → zW → Prop) : z_st1 (tX9_duplicate 66) 66 lv st w nx K Rt = (z_li lv 1 (fun x => nx 67 lv (.int x :: st) w)) := id rfl
theorem sX9_duplicate_67 (lv : zL) (st : List Value) (w : zW) (nx K : Nat → zL → List Value → zW → Prop) (Rt : Option Value → zW → Prop) : z_st1 (tX9_duplicate 67) 67 lv st w nx K Rt = (z_iia st (fun x i u r => z_ar0 w x (fun m g => vp_in i m ∧ nx 68 lv r (z_up w x (.inl (0, m, .inl (upd g i.toNatClampNeg u))))))) := id rfl
theorem sX9_duplicate_68 (lv : zL) (st : List Value) (w : zW) (nx K : Nat → zL → List Value → zW → Prop) (Rt : Option Value → zW → Prop) : z_st1 (tX9_duplicate 68) 68 lv st w nx K Rt = (z_la lv 0 (fun x => nx 69 lv (.ref x :: st) w)) := id rfl
theorem sX9_duplicate_69 (lv : zL) (st : List Value) (w : zW) (nx K : Nat → zL → List Value → zW → Prop) (Rt : Option Value → zW → Prop) : z_st1 (tX9_duplicate 69) 69 lv st w nx K Rt = (z_d1 st (fun x r => nx 70 lv (x :: x :: r) w)) := id rfl
theorem sX9_duplicate_70 (lv : zL) (st : List Value) (w : zW) (nx K : Nat → zL → List Value → zW → Prop) (Rt : Option Value → zW → Prop) : z_st1 (tX9_duplicate 70) 70 lv st w nx K Rt = (z_1a st (fun x r => z_ob w x 10 (fun fs => z_fl fs 30 (fun u => nx 73 lv (u :: r) w)))) := id rfl
theorem sX9_duplicate_73 (lv : zL) (st : List Value) (w : zW) (nx K : Nat → zL → List Value → zW → Prop) (Rt : Option Value → zW → Prop) : z_st1 (tX9_duplicate 73) 73 lv st w nx K Rt = (nx 74 lv (.int (1 : Int32) :: st) w) := id rfl
theorem sX9_duplicate_74 (lv : zL) (st : List Value) (w : zW) (nx K : Nat → zL → List Value → zW → Prop) (Rt : Option Value → zW → Prop) : z_st1 (tX9_duplicate 74) 74 lv st w nx K Rt = (z_2i st (fun x y r => nx 75 lv (.int (x + y) :: r) w)) := id rfl
theorem sX9_duplicate_75 (lv : zL) (st : List Value) (w : zW) (nx K : Nat → zL → List Value → zW → Prop) (Rt : Option Value → zW → Prop) : z_st1 (tX9_duplicate 75) 75 lv st w nx K Rt = (z_ia st (fun x i r => z_ob w x 10 (fun fs => 30 < fs.length ∧ nx 78 lv r (z_up w x (.inr (10, fs.set 30 (.int i))))))) := id rfl
theorem sX9_duplicate_78 (lv : zL) (st : List Value) (w : zW) (nx K : Nat → zL → List Value → zW → Prop) (Rt : Option Value → zW → Prop) : z_st1 (tX9_duplicate 78) 78 lv st w nx K Rt = (z_e0 st (Rt none w)) := id rfl
