/-! stubs, to be replaced -/
theorem RQ_most {c : Nat} {σ : ST} {x0 : Int32} (h : Inv c σ) (hz : cdMo σ x0 = 0) : nI (lstS σ (cl x0) (2 ^ σ.1 11 (cl x0))) = nI (mxS (gEf σ (cl x0) (σ.1 17 (cl x0))) 625) := by sorry
