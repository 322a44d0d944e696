theorem ne_ti {x k : Int32} {j : Int} (h : ¬ x = k) (hk : k.toInt = j) : x.toInt ≠ j := fun e => h (Int32.toInt_inj.mp (e.trans hk.symm))
