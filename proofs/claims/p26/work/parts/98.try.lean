theorem try_a (a b c d : Int32) : a + b - c + d = (a - c) + (d + b) := by grind
theorem try_b (a b c d x : Int32) (h : x = a + b) : x - c + d = (a - c) + (d + b) := by grind
theorem try_c (a b c d x : Int32) (h : x - a = b) (h2 : c + d = x) : c + d = b + a := by grind
theorem try_d (a b : Int32) : a * 31 + b - a * 31 = b := by grind
theorem try_e (a b : Int64) : a * 31 + b - a * 31 = b := by grind
