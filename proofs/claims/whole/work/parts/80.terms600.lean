theorem K3_c_0 : TH0.all (fun t => al (fun s => Nat.ble (CH t.2.2 s) 600) (21 - (t.1 ++ t.2.1).length)) = true := by decide +kernel
theorem K3_c_1 : TH1.all (fun t => al (fun s => Nat.ble (CH t.2.2 s) 600) (21 - (t.1 ++ t.2.1).length)) = true := by decide +kernel
theorem K3_c_2 : TH2.all (fun t => al (fun s => Nat.ble (CH t.2.2 s) 600) (21 - (t.1 ++ t.2.1).length)) = true := by decide +kernel
theorem K3_c_3 : TH3.all (fun t => al (fun s => Nat.ble (CH t.2.2 s) 600) (21 - (t.1 ++ t.2.1).length)) = true := by decide +kernel
theorem K3_c_4 : TH4.all (fun t => al (fun s => Nat.ble (CH t.2.2 s) 600) (21 - (t.1 ++ t.2.1).length)) = true := by decide +kernel
theorem K3_c_5 : TH5.all (fun t => al (fun s => Nat.ble (CH t.2.2 s) 600) (21 - (t.1 ++ t.2.1).length)) = true := by decide +kernel
theorem K3_c_6 : TH6.all (fun t => al (fun s => Nat.ble (CH t.2.2 s) 600) (21 - (t.1 ++ t.2.1).length)) = true := by decide +kernel
theorem K3_c_7 : TH7.all (fun t => al (fun s => Nat.ble (CH t.2.2 s) 600) (21 - (t.1 ++ t.2.1).length)) = true := by decide +kernel
theorem K3_c_8 : TH8.all (fun t => al (fun s => Nat.ble (CH t.2.2 s) 600) (21 - (t.1 ++ t.2.1).length)) = true := by decide +kernel
theorem K3_c_9 : TH9.all (fun t => al (fun s => Nat.ble (CH t.2.2 s) 600) (21 - (t.1 ++ t.2.1).length)) = true := by decide +kernel
theorem K3_c_10 : TH10.all (fun t => al (fun s => Nat.ble (CH t.2.2 s) 600) (21 - (t.1 ++ t.2.1).length)) = true := by decide +kernel
theorem K3_c_11 : TH11.all (fun t => al (fun s => Nat.ble (CH t.2.2 s) 600) (21 - (t.1 ++ t.2.1).length)) = true := by decide +kernel
theorem K3_c : THL.all (fun t => al (fun s => Nat.ble (CH t.2.2 s) 600) (21 - (t.1 ++ t.2.1).length)) = true := by
  unfold THL
  rw [List.all_append, K3_c_0, List.all_append, K3_c_1, List.all_append, K3_c_2, List.all_append, K3_c_3, List.all_append, K3_c_4, List.all_append, K3_c_5, List.all_append, K3_c_6, List.all_append, K3_c_7, List.all_append, K3_c_8, List.all_append, K3_c_9, List.all_append, K3_c_10, K3_c_11]
  rfl
