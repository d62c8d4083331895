theorem sRun_1 {s k : Int} {n : Nat} {f : Int → Int} (h : okG f (sGr s n)) : sRun s (n + 1) k f = sRun s n (k + 1) (fG f (sGr s n)) := by
  rw [sRun]
  exact if_pos h
theorem sRun_0 {s k : Int} {n : Nat} {f : Int → Int} (h : ¬ okG f (sGr s n)) : sRun s (n + 1) k f = k := by
  rw [sRun]
  exact if_neg h
