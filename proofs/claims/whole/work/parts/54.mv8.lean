theorem inL_c {x : Int32} {lo hi : Nat} (h1 : (lN lo).toInt = (nI lo).toInt) (h2 : (lN hi).toInt = (nI hi).toInt) : inL x.toInt64 (lN lo) (lN hi) = isIn x lo hi := by rw [inL_32, isIn_I, h1, h2]
