/-- the links to private members of nest mates (the host is SortMerge), and the texts of the exceptions -/
def z_nest : List (String × Nat × MethodName) := [("SortMerge", 16, yX3_init), ("SortMerge", 39, yX0_init), ("SortMerge", 46, yX6_init), ("SortMerge", 53, yX1_init), ("SortMerge", 63, yX2_init), ("SortMerge", 87, yX7_init), ("SortMerge$Keys", 28, yX8_isField)]
def z_strs : List (Nat × String) := [(97, "a work area has no rows below 0"), (179, "an exit failed"), (207, "no such record")]
