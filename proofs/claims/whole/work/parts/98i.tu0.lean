theorem MI.deep {d1 d2 m1 l1 t1 : Nat} {w1 : Int32} {s1 : Nat → Int32} (h : MI d1 m1 l1 t1 w1 s1) (hd : d2 ≤ 64) : MI d2 m1 l1 t1 w1 s1 := ⟨hd, h.2⟩
