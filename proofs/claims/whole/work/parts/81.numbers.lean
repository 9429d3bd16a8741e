theorem K4_a_0 : TA0.all (fun t => al (fun f0 => al (fun f1 => al (fun f2 => al (fun f3 => Nat.ble (wF t.1 f0 f1 f2 f3 0) t.2.1) 3) 5) 7) 9) = true := by decide +kernel
theorem K4_a_1 : TA1.all (fun t => al (fun f0 => al (fun f1 => al (fun f2 => al (fun f3 => Nat.ble (wF t.1 f0 f1 f2 f3 0) t.2.1) 3) 5) 7) 9) = true := by decide +kernel
theorem K4_a_2 : TA2.all (fun t => al (fun f0 => al (fun f1 => al (fun f2 => al (fun f3 => Nat.ble (wF t.1 f0 f1 f2 f3 0) t.2.1) 3) 5) 7) 9) = true := by decide +kernel
theorem K4_a_3 : TA3.all (fun t => al (fun f0 => al (fun f1 => al (fun f2 => al (fun f3 => Nat.ble (wF t.1 f0 f1 f2 f3 0) t.2.1) 3) 5) 7) 9) = true := by decide +kernel
theorem K4_a_4 : TA4.all (fun t => al (fun f0 => al (fun f1 => al (fun f2 => al (fun f3 => Nat.ble (wF t.1 f0 f1 f2 f3 0) t.2.1) 3) 5) 7) 9) = true := by decide +kernel
theorem K4_a_5 : TA5.all (fun t => al (fun f0 => al (fun f1 => al (fun f2 => al (fun f3 => Nat.ble (wF t.1 f0 f1 f2 f3 0) t.2.1) 3) 5) 7) 9) = true := by decide +kernel
theorem K4_a_6 : TA6.all (fun t => al (fun f0 => al (fun f1 => al (fun f2 => al (fun f3 => Nat.ble (wF t.1 f0 f1 f2 f3 0) t.2.1) 3) 5) 7) 9) = true := by decide +kernel
theorem K4_a_7 : TA7.all (fun t => al (fun f0 => al (fun f1 => al (fun f2 => al (fun f3 => Nat.ble (wF t.1 f0 f1 f2 f3 0) t.2.1) 3) 5) 7) 9) = true := by decide +kernel
theorem K4_a : TAL.all (fun t => al (fun f0 => al (fun f1 => al (fun f2 => al (fun f3 => Nat.ble (wF t.1 f0 f1 f2 f3 0) t.2.1) 3) 5) 7) 9) = true := by
  unfold TAL
  rw [List.all_append, K4_a_0, List.all_append, K4_a_1, List.all_append, K4_a_2, List.all_append, K4_a_3, List.all_append, K4_a_4, List.all_append, K4_a_5, List.all_append, K4_a_6, K4_a_7]
  rfl
