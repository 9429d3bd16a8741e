def mprt (q : Nat) : List Nat → List Nat → List Nat
  | [], _ => []
  | a :: t, B => ((t ++ B).filter (fun x => alq q a x (q + 1) 0)).map (fun x => a * 625 + x) ++ mprt q t B
theorem mprt_s (q : Nat) : ∀ (A B : List Nat), mprs q (A ++ B) = mprt q A B ++ mprs q B
  | [], B => rfl
  | a :: t, B => by rw [List.cons_append, mprs, mprt, mprt_s q t B, List.append_assoc]
theorem m5_c0 : mprt 5 ((eL5.drop 0).take 7) (eL5.drop 7) = (mL5.drop 0).take 206 := by decide +kernel
theorem m5_c1 : mprt 5 ((eL5.drop 7).take 7) (eL5.drop 14) = (mL5.drop 206).take 175 := by decide +kernel
theorem m5_c2 : mprt 5 ((eL5.drop 14).take 8) (eL5.drop 22) = (mL5.drop 381).take 200 := by decide +kernel
theorem m5_c3 : mprt 5 ((eL5.drop 22).take 8) (eL5.drop 30) = (mL5.drop 581).take 200 := by decide +kernel
theorem m5_c4 : mprt 5 ((eL5.drop 30).take 9) (eL5.drop 39) = (mL5.drop 781).take 25 := by decide +kernel
theorem m5_c5 : mprt 5 ((eL5.drop 39).take 9) (eL5.drop 48) = (mL5.drop 806).take 0 := by decide +kernel
theorem m5_c6 : mprt 5 ((eL5.drop 48).take 10) (eL5.drop 58) = (mL5.drop 806).take 0 := by decide +kernel
theorem m5_c7 : mprt 5 ((eL5.drop 58).take 11) (eL5.drop 69) = (mL5.drop 806).take 0 := by decide +kernel
theorem m5_c8 : mprt 5 ((eL5.drop 69).take 13) (eL5.drop 82) = (mL5.drop 806).take 0 := by decide +kernel
theorem m5_c9 : mprt 5 ((eL5.drop 82).take 16) (eL5.drop 98) = (mL5.drop 806).take 0 := by decide +kernel
theorem m5_c10 : mprt 5 ((eL5.drop 98).take 22) (eL5.drop 120) = (mL5.drop 806).take 0 := by decide +kernel
theorem m5_c11 : mprt 5 ((eL5.drop 120).take 36) (eL5.drop 156) = (mL5.drop 806).take 0 := by decide +kernel
theorem m5_d12 : mprs 5 (eL5.drop 156) = mL5.drop 806 := by decide +kernel
theorem m5_d11 : mprs 5 (eL5.drop 120) = mL5.drop 806 := by
  have h1 : eL5.drop 120 = (eL5.drop 120).take 36 ++ eL5.drop 156 := by decide +kernel
  have h2 : mL5.drop 806 = (mL5.drop 806).take 0 ++ mL5.drop 806 := by decide +kernel
  rw [h1, mprt_s, m5_c11, m5_d12]; exact h2.symm
theorem m5_d10 : mprs 5 (eL5.drop 98) = mL5.drop 806 := by
  have h1 : eL5.drop 98 = (eL5.drop 98).take 22 ++ eL5.drop 120 := by decide +kernel
  have h2 : mL5.drop 806 = (mL5.drop 806).take 0 ++ mL5.drop 806 := by decide +kernel
  rw [h1, mprt_s, m5_c10, m5_d11]; exact h2.symm
theorem m5_d9 : mprs 5 (eL5.drop 82) = mL5.drop 806 := by
  have h1 : eL5.drop 82 = (eL5.drop 82).take 16 ++ eL5.drop 98 := by decide +kernel
  have h2 : mL5.drop 806 = (mL5.drop 806).take 0 ++ mL5.drop 806 := by decide +kernel
  rw [h1, mprt_s, m5_c9, m5_d10]; exact h2.symm
theorem m5_d8 : mprs 5 (eL5.drop 69) = mL5.drop 806 := by
  have h1 : eL5.drop 69 = (eL5.drop 69).take 13 ++ eL5.drop 82 := by decide +kernel
  have h2 : mL5.drop 806 = (mL5.drop 806).take 0 ++ mL5.drop 806 := by decide +kernel
  rw [h1, mprt_s, m5_c8, m5_d9]; exact h2.symm
theorem m5_d7 : mprs 5 (eL5.drop 58) = mL5.drop 806 := by
  have h1 : eL5.drop 58 = (eL5.drop 58).take 11 ++ eL5.drop 69 := by decide +kernel
  have h2 : mL5.drop 806 = (mL5.drop 806).take 0 ++ mL5.drop 806 := by decide +kernel
  rw [h1, mprt_s, m5_c7, m5_d8]; exact h2.symm
theorem m5_d6 : mprs 5 (eL5.drop 48) = mL5.drop 806 := by
  have h1 : eL5.drop 48 = (eL5.drop 48).take 10 ++ eL5.drop 58 := by decide +kernel
  have h2 : mL5.drop 806 = (mL5.drop 806).take 0 ++ mL5.drop 806 := by decide +kernel
  rw [h1, mprt_s, m5_c6, m5_d7]; exact h2.symm
theorem m5_d5 : mprs 5 (eL5.drop 39) = mL5.drop 806 := by
  have h1 : eL5.drop 39 = (eL5.drop 39).take 9 ++ eL5.drop 48 := by decide +kernel
  have h2 : mL5.drop 806 = (mL5.drop 806).take 0 ++ mL5.drop 806 := by decide +kernel
  rw [h1, mprt_s, m5_c5, m5_d6]; exact h2.symm
theorem m5_d4 : mprs 5 (eL5.drop 30) = mL5.drop 781 := by
  have h1 : eL5.drop 30 = (eL5.drop 30).take 9 ++ eL5.drop 39 := by decide +kernel
  have h2 : mL5.drop 781 = (mL5.drop 781).take 25 ++ mL5.drop 806 := by decide +kernel
  rw [h1, mprt_s, m5_c4, m5_d5]; exact h2.symm
theorem m5_d3 : mprs 5 (eL5.drop 22) = mL5.drop 581 := by
  have h1 : eL5.drop 22 = (eL5.drop 22).take 8 ++ eL5.drop 30 := by decide +kernel
  have h2 : mL5.drop 581 = (mL5.drop 581).take 200 ++ mL5.drop 781 := by decide +kernel
  rw [h1, mprt_s, m5_c3, m5_d4]; exact h2.symm
theorem m5_d2 : mprs 5 (eL5.drop 14) = mL5.drop 381 := by
  have h1 : eL5.drop 14 = (eL5.drop 14).take 8 ++ eL5.drop 22 := by decide +kernel
  have h2 : mL5.drop 381 = (mL5.drop 381).take 200 ++ mL5.drop 581 := by decide +kernel
  rw [h1, mprt_s, m5_c2, m5_d3]; exact h2.symm
theorem m5_d1 : mprs 5 (eL5.drop 7) = mL5.drop 206 := by
  have h1 : eL5.drop 7 = (eL5.drop 7).take 7 ++ eL5.drop 14 := by decide +kernel
  have h2 : mL5.drop 206 = (mL5.drop 206).take 175 ++ mL5.drop 381 := by decide +kernel
  rw [h1, mprt_s, m5_c1, m5_d2]; exact h2.symm
theorem m5_d0 : mprs 5 (eL5.drop 0) = mL5.drop 0 := by
  have h1 : eL5.drop 0 = (eL5.drop 0).take 7 ++ eL5.drop 7 := by decide +kernel
  have h2 : mL5.drop 0 = (mL5.drop 0).take 206 ++ mL5.drop 206 := by decide +kernel
  rw [h1, mprt_s, m5_c0, m5_d1]; exact h2.symm
theorem m5_k : mprs 5 eL5 = mL5 := m5_d0
theorem tt5 : (mprs 5 (esq 5)).isPerm (cpl 5) = true := by rw [e5_k, c5_k, m5_k]; exact p5_k
