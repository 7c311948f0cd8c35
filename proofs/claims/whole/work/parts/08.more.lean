/-! what was found wanting later -/
theorem zne_k {x k : Int32} {n : Int} (h : ¬ x = k) (e : k.toInt = n) : ¬ x.toInt = n := fun q => h (Int32.toInt_inj.mp (q.trans e.symm))
