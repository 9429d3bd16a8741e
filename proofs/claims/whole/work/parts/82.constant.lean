theorem al4 {p : Nat → Nat → Nat → Nat → Bool} {n0 n1 n2 n3 i0 i1 i2 i3 : Nat} (h : al (fun f0 => al (fun f1 => al (fun f2 => al (fun f3 => p f0 f1 f2 f3) n3) n2) n1) n0 = true) (h0 : i0 < n0) (h1 : i1 < n1) (h2 : i2 < n2) (h3 : i3 < n3) : p i0 i1 i2 i3 = true := by
  have q0 := al_i (p := fun f0 => al (fun f1 => al (fun f2 => al (fun f3 => p f0 f1 f2 f3) n3) n2) n1) h h0
  have q1 := al_i (p := fun f1 => al (fun f2 => al (fun f3 => p i0 f1 f2 f3) n3) n2) q0 h1
  have q2 := al_i (p := fun f2 => al (fun f3 => p i0 i1 f2 f3) n3) q1 h2
  exact al_i (p := fun f3 => p i0 i1 i2 f3) q2 h3
theorem W_lok {a : List Nat} (h : a ∈ W1L ∨ a ∈ W2L) : lok a ∧ a.length ≤ 6 := by
  have hk := K2_k.2.2
  have w : a.all (fun i => Nat.ble 1 i && Nat.ble i 4) = true ∧ a.length ≤ 6 := by
    rcases h with h | h
    · have q := List.all_eq_true.mp hk.1 a h
      rw [Bool.and_eq_true, Nat.ble_eq] at q
      exact ⟨q.2, q.1⟩
    · have q := List.all_eq_true.mp hk.2 a h
      rw [Bool.and_eq_true, Nat.ble_eq] at q
      exact ⟨q.2, by omega⟩
  refine ⟨fun i hi => ?_, w.2⟩
  have q := List.all_eq_true.mp w.1 i hi
  rw [Bool.and_eq_true, Nat.ble_eq, Nat.ble_eq] at q
  exact q
theorem W1_take {a : List Nat} (h : a ∈ W1L) (k : Nat) : a.take k ∈ W1L := by
  have q := List.all_eq_true.mp K2_k.1 a h
  by_cases c : k < 7
  · exact List.contains_iff_mem.mp (List.all_eq_true.mp q k (List.mem_range.mpr c))
  · rw [List.take_of_length_le (by have := (W_lok (Or.inl h)).2; omega)]
    exact h
theorem W2_take {a : List Nat} (h : a ∈ W2L) (k : Nat) : a.take k ∈ W2L := by
  have q := List.all_eq_true.mp K2_k.2.1 a h
  by_cases c : k < 5
  · exact List.contains_iff_mem.mp (List.all_eq_true.mp q k (List.mem_range.mpr c))
  · have q4 := List.all_eq_true.mp K2_k.2.2.2 a h
    rw [Bool.and_eq_true, Nat.ble_eq] at q4
    rw [List.take_of_length_le (by omega)]
    exact h
/-- in each word's room at most 600 terms of one sum -/
theorem CH_600 {a b : List Nat} (ha : a ∈ W1L) (hb : b ∈ W2L) {s : Nat} (hs : s + (a ++ b).length ≤ 20) : CH (hl (a ++ b) h0L) s ≤ 600 := by
  have q := List.all_eq_true.mp (List.all_eq_true.mp K3_k a ha) b hb
  obtain ⟨t, ht, e⟩ := List.any_eq_true.mp q
  rw [Bool.and_eq_true, beq_iff_eq, beq_iff_eq] at e
  have h1 := List.all_eq_true.mp K3_h t ht
  rw [beq_iff_eq, e.1, e.2] at h1
  have h2 := List.all_eq_true.mp K3_c t ht
  have h3 := al_i h2 (i := s) (by rw [e.1, e.2]; omega)
  rw [h1]
  exact Nat.ble_eq.mp h3
theorem PH_1 {h : List Nat} {D k c : Nat} (w : PH h D k c) : ∃ f0 f1 f2 f3 f4 : Nat, f0 ≤ 8 ∧ f1 ≤ 8 ∧ f2 ≤ 8 ∧ f3 ≤ 8 ∧ f4 ≤ 8 ∧ f0 ≤ h.getD 1 0 ∧ f1 ≤ h.getD 2 0 ∧ f2 ≤ h.getD 4 0 ∧ f3 ≤ h.getD 8 0 ∧ f4 ≤ h.getD 16 0 ∧ c = f0 * 10000 + f1 * 1000 + f2 * 100 + f3 * 10 + f4 := by
  obtain ⟨f0, f1, f2, f3, f4, a0, a1, a2, a3, a4, H, hD, hc⟩ := w
  exact ⟨f0, f1, f2, f3, f4, a0, a1, a2, a3, a4, Nat.le_trans (Nat.le_of_eq (by simp only [ss, sb_t, sb_f]; omega)) (H true false false false false), Nat.le_trans (Nat.le_of_eq (by simp only [ss, sb_t, sb_f]; omega)) (H false true false false false), Nat.le_trans (Nat.le_of_eq (by simp only [ss, sb_t, sb_f]; omega)) (H false false true false false), Nat.le_trans (Nat.le_of_eq (by simp only [ss, sb_t, sb_f]; omega)) (H false false false true false), Nat.le_trans (Nat.le_of_eq (by simp only [ss, sb_t, sb_f]; omega)) (H false false false false true), hc⟩
/-- behind each word the numbers stay small -/
theorem nrF_w {P : Nat → Int64} {D k N : Nat} (hP : sup (PH h0L D k) P) (hN : nrF (fun _ => 1) P 59049 0 ≤ N) {a b : List Nat} (ha : a ∈ W1L) (hb : b ∈ W2L) : nrF (fun _ => 1) (mch (a ++ b) P) 59049 0 ≤ 308641 * N := by
  obtain ⟨t, ht, e⟩ := List.any_eq_true.mp (List.all_eq_true.mp K4_d a ha)
  rw [beq_iff_eq] at e
  have h1 := List.all_eq_true.mp K4_h t ht
  rw [Bool.and_eq_true, Bool.and_eq_true, Bool.and_eq_true, Bool.and_eq_true, Bool.and_eq_true, beq_iff_eq, beq_iff_eq, beq_iff_eq, beq_iff_eq, beq_iff_eq, Nat.ble_eq, e] at h1
  obtain ⟨hA, e0, e1, e2, e3, e4⟩ := h1
  have hla := (W_lok (Or.inl ha)).1
  have hlb := (W_lok (Or.inr hb)).1
  have n1 : nrF (fun _ => 1) (mch a P) 59049 0 ≤ t.2.1 * N := by
    have q1 := nrF_mch a P hla
    have q2 := nrF_le (W := wL a) (S := P) (A := 1) (C := t.2.1) (fun c hc => by
      obtain ⟨f0, f1, f2, f3, f4, a0, a1, a2, a3, a4, g0, g1, g2, g3, g4, hc⟩ := PH_1 (hP c hc)
      have g0 : f0 ≤ 8 := g0
      have g1 : f1 ≤ 6 := g1
      have g2 : f2 ≤ 4 := g2
      have g3 : f3 ≤ 2 := g3
      have g4 : f4 = 0 := Nat.le_zero.mp g4
      rw [Nat.mul_one, hc, wL_F a hla f0 f1 f2 f3 f4 a0 a1 a2 a3 a4, g4]
      have w := List.all_eq_true.mp K4_a t ht
      have w := al4 (p := fun f0 f1 f2 f3 => Nat.ble (wF t.1 f0 f1 f2 f3 0) t.2.1) w (show f0 < 9 by omega) (show f1 < 7 by omega) (show f2 < 5 by omega) (show f3 < 3 by omega)
      rw [e] at w
      exact Nat.ble_eq.mp w) 59049 0
    rw [Nat.mul_one] at q2
    exact Nat.le_trans q1 (Nat.le_trans q2 (Nat.mul_le_mul_left _ hN))
  have hS := sup_mchh a P h0L k hla hP
  have n2 : nrF (wL b) (mch a P) 59049 0 * t.2.1 ≤ 308641 * nrF (fun _ => 1) (mch a P) 59049 0 := by
    refine nrF_le (fun c hc => ?_) 59049 0
    obtain ⟨f0, f1, f2, f3, f4, a0, a1, a2, a3, a4, g0, g1, g2, g3, g4, hc⟩ := PH_1 (hS c hc)
    rw [e0] at g0
    rw [e1] at g1
    rw [e2] at g2
    rw [e3] at g3
    rw [e4] at g4
    have g4 : f4 = 0 := Nat.le_zero.mp g4
    rw [hc, wL_F b hlb f0 f1 f2 f3 f4 a0 a1 a2 a3 a4, g4]
    have w := List.all_eq_true.mp (List.all_eq_true.mp K4_b t ht) b hb
    have w := al4 (p := fun f0 f1 f2 f3 => Nat.ble (wF b f0 f1 f2 f3 0 * t.2.1) 308641) w (show f0 < t.2.2.1 + 1 by omega) (show f1 < t.2.2.2.1 + 1 by omega) (show f2 < t.2.2.2.2.1 + 1 by omega) (show f3 < t.2.2.2.2.2 + 1 by omega)
    exact Nat.ble_eq.mp w
  rw [mch_app]
  have n3 := nrF_mch b (mch a P) hlb
  generalize nrF (fun _ => 1) (mch b (mch a P)) 59049 0 = X at n3 ⊢
  generalize nrF (wL b) (mch a P) 59049 0 = Y at n2 n3
  generalize nrF (fun _ => 1) (mch a P) 59049 0 = Z at n1 n2
  have n4 : Y * t.2.1 ≤ 308641 * N * t.2.1 := by
    refine Nat.le_trans n2 (Nat.le_trans (Nat.mul_le_mul_left _ n1) (Nat.le_of_eq ?_))
    rw [Nat.mul_assoc, Nat.mul_comm N]
  exact Nat.le_trans n3 (Nat.le_of_mul_le_mul_right n4 hA)
/-- the polynomial of an order is of few -/
theorem mpo_18 {o : Nat} (ho : o ∈ ordL) : nrF (fun _ => 1) (mpo o) 59049 0 ≤ 18 := by
  have hl := lok_r (cq_ok o ho false)
  have h1 := nrF_mch _ (adS zS (str (figN o)) 1) hl
  have hn := (ord_b o ho).2.1
  have hs := stc_o (str_st _ hn)
  have h2 := nrF_ad (wL (cq false o).reverse) zS hs 1 59049 0 (Nat.le_refl _)
  rw [nrF_z, Nat.zero_add, show na 1 = 1 by decide, Nat.mul_one, str_f, wL_F _ hl _ _ _ _ _ (by omega) (by omega) (by omega) (by omega) (by omega)] at h2
  have h3 := Nat.ble_eq.mp (List.all_eq_true.mp K5_k o ho)
  rw [← str_f] at h2
  exact Nat.le_trans h1 (Nat.le_trans h2 h3)
/-- in constant nothing is too much -/
theorem con_gdc {u v w : Nat} (hu : u ∈ ordL) (hv : v ∈ ordL) (hw : w ∈ ordL) : gdc (cq true w) (mO (mpo u) (mpo v) 59049 0 zS) := by
  obtain ⟨D1, k1, hD1, s1⟩ := mpo_d hu
  obtain ⟨D2, k2, hD2, s2⟩ := mpo_d hv
  have hP : sup (PH h0L (D1 + D2) (k1 + k2)) (mO (mpo u) (mpo v) 59049 0 zS) := sup_mO std_2 s1 s2
  have hN : nrF (fun _ => 1) (mO (mpo u) (mpo v) 59049 0 zS) 59049 0 ≤ 324 := Nat.le_trans (nrF_mO (sup_mpo hu) (sup_mpo hv)) (Nat.mul_le_mul (mpo_18 hu) (mpo_18 hv))
  generalize mO (mpo u) (mpo v) 59049 0 zS = P at hP hN ⊢
  obtain ⟨a, ha, q⟩ := List.any_eq_true.mp (List.all_eq_true.mp K1_k w hw)
  obtain ⟨b, hb, e⟩ := List.any_eq_true.mp q
  rw [beq_iff_eq] at e
  rw [e]
  refine gdc_all _ _ (fun k => ?_)
  rw [List.take_append]
  have ha' := W1_take ha k
  have hb' := W2_take hb (k - a.length)
  generalize a.take k = a' at ha' ⊢
  generalize b.take (k - a.length) = b' at hb' ⊢
  have hlok : lok (a' ++ b') := fun i hi => by
    rcases List.mem_append.mp hi with h | h
    · exact (W_lok (Or.inl ha')).1 i h
    · exact (W_lok (Or.inr hb')).1 i h
  have hS := sup_mchh (a' ++ b') P h0L (k1 + k2) hlok hP
  by_cases z : ∃ c, mch (a' ++ b') P c ≠ 0
  · obtain ⟨c0, hc0⟩ := z
    have hk : k1 + k2 + (a' ++ b').length ≤ D1 + D2 := by
      obtain ⟨f0, f1, f2, f3, f4, _, _, _, _, _, _, hD, _⟩ := hS c0 hc0
      omega
    refine stl_ok (fun c _ h => PH_o (hS c h)) (LH (hl (a' ++ b') h0L) (D1 + D2 - (k1 + k2 + (a' ++ b').length))) ?_ (fun e _ h => LH_mem (hS _ h)) ?_
    · rw [LH_len]
      exact CH_600 ha' hb' (by omega)
    · exact Nat.le_trans (nrF_w hP hN ha' hb') (by decide)
  · refine stl_ok (fun c _ h => absurd ⟨c, h⟩ z) [] (Nat.zero_le _) (fun e _ h => absurd ⟨_, h⟩ z) ?_
    exact Nat.le_trans (nrF_w hP hN ha' hb') (by decide)
theorem figs_O {o : Int} (h : figs o ≠ 0) : figs o = figN o.toNat ∧ o.toNat ∈ ordL := by
  have hb := figs_b h
  have w := figs_N (w := o.toNat) (by rw [show ((o.toNat : Nat) : Int) = o by omega]; exact h)
  rw [show ((o.toNat : Nat) : Int) = o by omega] at w
  exact w
/-- constant: class and model answer alike -/
theorem yCon_x (u v w : Int) : yCon u v w = xCon u v w := by
  unfold yCon xCon
  by_cases q : figs u ≠ 0 ∧ figs v ≠ 0 ∧ figs w ≠ 0
  · rw [if_pos q, if_pos q]
    obtain ⟨eu, hu⟩ := figs_O q.1
    obtain ⟨ev, hv⟩ := figs_O q.2.1
    obtain ⟨ew, hw⟩ := figs_O q.2.2
    have pu := mpo_ok hu
    have pv := mpo_ok hv
    have g := con_gdc hu hv hw
    have e := pml_O (sok_mpo hu) (sok_mpo hv) pu.2 pv.2
    have hsk : sok (mO (mpo u.toNat) (mpo v.toNat) 59049 0 zS) := sok_mO (sup_mpo hu) (sup_mpo hv) _ _ _ sok_z
    unfold ppr
    have tu : ((u.toNat : Nat) : Int) = u := by have := figs_b q.1; omega
    have tv : ((v.toNat : Nat) : Int) = v := by have := figs_b q.2.1; omega
    have tw : ((w.toNat : Nat) : Int) = w := by have := figs_b q.2.2; omega
    rw [tu, tv, tw, eu, ev, ew, pu.1, pv.1, thi_f (sup_mpo hu) (sup_mpo hv), e, if_neg (by decide), if_neg (by have := gdc_0 g; omega), pfq_l, ← pfl_f _ _ (cq_ok _ hw true) hsk g]
    rfl
  · rw [if_neg q, if_neg q]
