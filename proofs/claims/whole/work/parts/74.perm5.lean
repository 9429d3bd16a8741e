theorem p5_k : mL5.isPerm cL5 = true := by decide +kernel
