set_option maxRecDepth 4000 in
set_option maxHeartbeats 1000000 in
theorem C11_fillings  (G : Nat → Nat → Int32) (L : Nat → Nat → Int64) (k m a b c : Int) (k1 : -2147483648 ≤ k) (k2 : k < 2147483648) (m1 : -2147483648 ≤ m) (m2 : m < 2147483648) (a1 : -2147483648 ≤ a) (a2 : a < 2147483648) (b1 : -2147483648 ≤ b) (b2 : b < 2147483648) (c1 : -2147483648 ≤ c) (c2 : c < 2147483648) : fv_M Y11_fillings 2 0 0 [.ref 0, .int (iI k), .int (iI m), .int (iI a), .int (iI b), .int (iI c)] (fw mT G L) none (qmb G L (xFls k m a b c)) := by
  refine fv_enter rfl (Nat.le_of_ble_eq_true rfl) ?_
  obtain ⟨Q, hQ⟩ : ∃ Q : Option Value → fv_F → Option Nat → Prop, Q = (qmb G L (xFls k m a b c)) := ⟨_, rfl⟩
  rw [← hQ]
  show fv_At Y11_fillings 2 0 0 Q 0 [(0, .ref 0), (1, .int (iI k)), (2, .int (iI m)), (3, .int (iI a)), (4, .int (iI b)), (5, .int (iI c))] [] (fw mT G L) none 0 0
  refine fx_iload_n dX11_fillings_0 rfl (i := 1) rfl ?_
  refine fx_iload_n dX11_fillings_1 rfl (i := 2) rfl ?_
  refine fn_cS dX11_fillings_2 lk11_210 (C11_areSides k m (by omega) (by omega) (by omega) (by omega) (fw mT G L)) rfl rfl (by decide) (Nat.le_of_ble_eq_true rfl) ?_
  show fv_At Y11_fillings 2 0 0 Q 5 [(0, .ref 0), (1, .int (iI k)), (2, .int (iI m)), (3, .int (iI a)), (4, .int (iI b)), (5, .int (iI c))] [.int (bI (isSh k m))] (fw mT G L) none 0 0
  refine fn_if_eqB (tgt := 53) dX11_fillings_5 (by decide) (fun c5 => ?_) (fun c5 => ?_)
  · skip
    refine fx_iconst (v := (nI 0)) dX11_fillings_53 (by decide) ?_
    refine fn_to (show _ = (bI false) from rfl) ?_
    refine fx_istore (lv2 := [(0, .ref 0), (1, .int (iI k)), (2, .int (iI m)), (3, .int (iI a)), (4, .int (iI b)), (5, .int (iI c)), (6, .int (bI false))]) dX11_fillings_54 (by decide) rfl ?_
    refine fx_iload dX11_fillings_56 rfl ?_
    refine fn_if_eqB (tgt := 69) dX11_fillings_58 (by decide) (fun c58 => ?_) (fun c58 => ?_)
    · skip
      refine fx_bipush (v := (iI (-2))) dX11_fillings_69 (by decide) ?_
      exact fx_iret dX11_fillings_71 rfl rfl rfl (by rw [hQ]; exact ⟨G, by unfold xFls; rw [if_neg (fun q => by first | (have q3 := (isBx_3 q.1).1; rw [c5] at q3; exact absurd q3 (by decide)) | exact absurd (c18.symm.trans q.1) (by decide) | exact absurd (c32.symm.trans q.2.1) (by decide) | exact absurd (c46.symm.trans q.2.2) (by decide))], rfl, rfl, fun i a1 a2 a3 a4 a5 a6 a7 a8 a9 => rfl⟩)
    · exact absurd c58 (by decide)
  · skip
    have hsh := isSh_1 c5
    obtain ⟨k0, rfl⟩ : ∃ z : Nat, k = (z : Int) := ⟨k.toNat, by omega⟩
    obtain ⟨m0, rfl⟩ : ∃ z : Nat, m = (z : Int) := ⟨m.toNat, by omega⟩
    show fv_At Y11_fillings 2 0 0 Q 8 [(0, .ref 0), (1, .int (nI k0)), (2, .int (nI m0)), (3, .int (iI a)), (4, .int (iI b)), (5, .int (iI c))] [] (fw mT G L) none 0 0
    refine fx_iload_n dX11_fillings_8 rfl (i := 1) rfl ?_
    refine fx_iload_n dX11_fillings_9 rfl (i := 2) rfl ?_
    refine fx_iload_n dX11_fillings_10 rfl (i := 3) rfl ?_
    refine fx_aload_n dX11_fillings_11 rfl (i := 0) rfl ?_
    refine fw_getr dX11_fillings_12 fd11_46 rfl rfl ?_
    refine fx_callS dX11_fillings_15 lk11_214 (C11_isBox G L 12 rfl k0 m0 (by omega) (by omega) (by omega) (by omega) a (by omega) (by omega)) rfl rfl (by decide) (Nat.le_of_ble_eq_true rfl) (by decide) (by decide) (fun r15 f15 al15 h15 => ?_)
    obtain ⟨G15, rfl, rfl, rfl, ho15, hd15⟩ := h15
    show fv_At Y11_fillings 2 0 0 Q 18 [(0, .ref 0), (1, .int (nI k0)), (2, .int (nI m0)), (3, .int (iI a)), (4, .int (iI b)), (5, .int (iI c))] [.int (bI (isBx (k0 : Int) (m0 : Int) a))] (fw mT G15 L) none 0 0
    refine fn_if_eqB (tgt := 53) dX11_fillings_18 (by decide) (fun c18 => ?_) (fun c18 => ?_)
    · skip
      refine fx_iconst (v := (nI 0)) dX11_fillings_53 (by decide) ?_
      refine fn_to (show _ = (bI false) from rfl) ?_
      refine fx_istore (lv2 := [(0, .ref 0), (1, .int (nI k0)), (2, .int (nI m0)), (3, .int (iI a)), (4, .int (iI b)), (5, .int (iI c)), (6, .int (bI false))]) dX11_fillings_54 (by decide) rfl ?_
      refine fx_iload dX11_fillings_56 rfl ?_
      refine fn_if_eqB (tgt := 69) dX11_fillings_58 (by decide) (fun c58 => ?_) (fun c58 => ?_)
      · skip
        refine fx_bipush (v := (iI (-2))) dX11_fillings_69 (by decide) ?_
        exact fx_iret dX11_fillings_71 rfl rfl rfl (by rw [hQ]; exact ⟨G15, by unfold xFls; rw [if_neg (fun q => by first | (have q3 := (isBx_3 q.1).1; rw [c5] at q3; exact absurd q3 (by decide)) | exact absurd (c18.symm.trans q.1) (by decide) | exact absurd (c32.symm.trans q.2.1) (by decide) | exact absurd (c46.symm.trans q.2.2) (by decide))], rfl, rfl, fun i a1 a2 a3 a4 a5 a6 a7 a8 a9 => ho15 i a1⟩)
      · exact absurd c58 (by decide)
    · skip
      refine fx_iload_n dX11_fillings_21 rfl (i := 1) rfl ?_
      refine fx_iload_n dX11_fillings_22 rfl (i := 2) rfl ?_
      refine fx_iload dX11_fillings_23 rfl ?_
      refine fx_aload_n dX11_fillings_25 rfl (i := 0) rfl ?_
      refine fw_getr dX11_fillings_26 fd11_49 rfl rfl ?_
      refine fx_callS dX11_fillings_29 lk11_214 (C11_isBox G15 L 13 rfl k0 m0 (by omega) (by omega) (by omega) (by omega) b (by omega) (by omega)) rfl rfl (by decide) (Nat.le_of_ble_eq_true rfl) (by decide) (by decide) (fun r29 f29 al29 h29 => ?_)
      obtain ⟨G29, rfl, rfl, rfl, ho29, hd29⟩ := h29
      show fv_At Y11_fillings 2 0 0 Q 32 [(0, .ref 0), (1, .int (nI k0)), (2, .int (nI m0)), (3, .int (iI a)), (4, .int (iI b)), (5, .int (iI c))] [.int (bI (isBx (k0 : Int) (m0 : Int) b))] (fw mT G29 L) none 0 0
      refine fn_if_eqB (tgt := 53) dX11_fillings_32 (by decide) (fun c32 => ?_) (fun c32 => ?_)
      · skip
        refine fx_iconst (v := (nI 0)) dX11_fillings_53 (by decide) ?_
        refine fn_to (show _ = (bI false) from rfl) ?_
        refine fx_istore (lv2 := [(0, .ref 0), (1, .int (nI k0)), (2, .int (nI m0)), (3, .int (iI a)), (4, .int (iI b)), (5, .int (iI c)), (6, .int (bI false))]) dX11_fillings_54 (by decide) rfl ?_
        refine fx_iload dX11_fillings_56 rfl ?_
        refine fn_if_eqB (tgt := 69) dX11_fillings_58 (by decide) (fun c58 => ?_) (fun c58 => ?_)
        · skip
          refine fx_bipush (v := (iI (-2))) dX11_fillings_69 (by decide) ?_
          exact fx_iret dX11_fillings_71 rfl rfl rfl (by rw [hQ]; exact ⟨G29, by unfold xFls; rw [if_neg (fun q => by first | (have q3 := (isBx_3 q.1).1; rw [c5] at q3; exact absurd q3 (by decide)) | exact absurd (c18.symm.trans q.1) (by decide) | exact absurd (c32.symm.trans q.2.1) (by decide) | exact absurd (c46.symm.trans q.2.2) (by decide))], rfl, rfl, fun i a1 a2 a3 a4 a5 a6 a7 a8 a9 => (ho29 i a2).trans (ho15 i a1)⟩)
        · exact absurd c58 (by decide)
      · skip
        refine fx_iload_n dX11_fillings_35 rfl (i := 1) rfl ?_
        refine fx_iload_n dX11_fillings_36 rfl (i := 2) rfl ?_
        refine fx_iload dX11_fillings_37 rfl ?_
        refine fx_aload_n dX11_fillings_39 rfl (i := 0) rfl ?_
        refine fw_getr dX11_fillings_40 fd11_52 rfl rfl ?_
        refine fx_callS dX11_fillings_43 lk11_214 (C11_isBox G29 L 14 rfl k0 m0 (by omega) (by omega) (by omega) (by omega) c (by omega) (by omega)) rfl rfl (by decide) (Nat.le_of_ble_eq_true rfl) (by decide) (by decide) (fun r43 f43 al43 h43 => ?_)
        obtain ⟨G43, rfl, rfl, rfl, ho43, hd43⟩ := h43
        show fv_At Y11_fillings 2 0 0 Q 46 [(0, .ref 0), (1, .int (nI k0)), (2, .int (nI m0)), (3, .int (iI a)), (4, .int (iI b)), (5, .int (iI c))] [.int (bI (isBx (k0 : Int) (m0 : Int) c))] (fw mT G43 L) none 0 0
        refine fn_if_eqB (tgt := 53) dX11_fillings_46 (by decide) (fun c46 => ?_) (fun c46 => ?_)
        · skip
          refine fx_iconst (v := (nI 0)) dX11_fillings_53 (by decide) ?_
          refine fn_to (show _ = (bI false) from rfl) ?_
          refine fx_istore (lv2 := [(0, .ref 0), (1, .int (nI k0)), (2, .int (nI m0)), (3, .int (iI a)), (4, .int (iI b)), (5, .int (iI c)), (6, .int (bI false))]) dX11_fillings_54 (by decide) rfl ?_
          refine fx_iload dX11_fillings_56 rfl ?_
          refine fn_if_eqB (tgt := 69) dX11_fillings_58 (by decide) (fun c58 => ?_) (fun c58 => ?_)
          · skip
            refine fx_bipush (v := (iI (-2))) dX11_fillings_69 (by decide) ?_
            exact fx_iret dX11_fillings_71 rfl rfl rfl (by rw [hQ]; exact ⟨G43, by unfold xFls; rw [if_neg (fun q => by first | (have q3 := (isBx_3 q.1).1; rw [c5] at q3; exact absurd q3 (by decide)) | exact absurd (c18.symm.trans q.1) (by decide) | exact absurd (c32.symm.trans q.2.1) (by decide) | exact absurd (c46.symm.trans q.2.2) (by decide))], rfl, rfl, fun i a1 a2 a3 a4 a5 a6 a7 a8 a9 => (ho43 i a3).trans ((ho29 i a2).trans (ho15 i a1))⟩)
          · exact absurd c58 (by decide)
        · skip
          refine fx_iconst (v := (nI 1)) dX11_fillings_49 (by decide) ?_
          refine fn_to (show _ = (bI true) from rfl) ?_
          refine fx_goto (tgt := 54) dX11_fillings_50 (by decide) ?_
          refine fx_istore (lv2 := [(0, .ref 0), (1, .int (nI k0)), (2, .int (nI m0)), (3, .int (iI a)), (4, .int (iI b)), (5, .int (iI c)), (6, .int (bI true))]) dX11_fillings_54 (by decide) rfl ?_
          refine fx_iload dX11_fillings_56 rfl ?_
          refine fn_if_eqB (tgt := 69) dX11_fillings_58 (by decide) (fun c58 => ?_) (fun c58 => ?_)
          · exact absurd c58 (by decide)
          · skip
            have hin : isBx (k0 : Int) (m0 : Int) a = true ∧ isBx (k0 : Int) (m0 : Int) b = true ∧ isBx (k0 : Int) (m0 : Int) c = true := ⟨c18, c32, c46⟩
            have ha5 := isBx_s c18
            have hb5 := isBx_s c32
            have hc5 := isBx_s c46
            have hvc := isBx_v c46
            obtain ⟨a0, rfl⟩ : ∃ z : Nat, a = (z : Int) := ⟨a.toNat, by omega⟩
            obtain ⟨b0, rfl⟩ : ∃ z : Nat, b = (z : Int) := ⟨b.toNat, by omega⟩
            obtain ⟨c0, rfl⟩ : ∃ z : Nat, c = (z : Int) := ⟨c.toNat, by omega⟩
            have hg3 : ∀ p, p < k0 → G43 12 p = nI (dgt a0 k0 p) ∧ G43 13 p = nI (dgt b0 k0 p) ∧ G43 14 p = nI (dgt c0 k0 p) := fun p hp => ⟨by rw [ho43 12 (by decide), ho29 12 (by decide)]; exact hd15 (by omega) p hp, by rw [ho43 13 (by decide)]; exact hd29 (by omega) p hp, hd43 (by omega) p hp⟩
            show fv_At Y11_fillings 2 0 0 Q 61 [(0, .ref 0), (1, .int (nI k0)), (2, .int (nI m0)), (3, .int (nI a0)), (4, .int (nI b0)), (5, .int (nI c0)), (6, .int (bI true))] [] (fw mT G43 L) none 0 0
            refine fx_aload_n dX11_fillings_61 rfl (i := 0) rfl ?_
            refine fx_iload_n dX11_fillings_62 rfl (i := 1) rfl ?_
            refine fx_callV dX11_fillings_63 lk11_231 fv_c8 rfl (fw_at (show mT 0 = some (3, 8, 38, [some 1, none, some 2, some 3, some 4, some 5, some 6, some 7, some 8, some 9, some 10, some 11, some 12, some 13, some 14, some 15, some 16, some 17, some 18, some 19, none, none, none, some 20, some 21, some 22, some 23, none, some 24, some 25, some 26, some 27, some 28, some 29, some 30, some 31, none, some 32]) from rfl)) (C11_fills G43 L k0 m0 (by omega) (by omega) (by omega) (dgt a0 k0) (dgt b0 k0) (dgt c0 k0) hvc (fun p => ⟨dgt_lt _ _ _, dgt_lt _ _ _⟩) hg3) rfl rfl (by decide) (Nat.le_of_ble_eq_true rfl) (by decide) (by decide) (fun r63 f63 al63 h63 => ?_)
            obtain ⟨G63, rfl, rfl, rfl, ho63⟩ := h63
            show fv_At Y11_fillings 2 0 0 Q 66 [(0, .ref 0), (1, .int (nI k0)), (2, .int (nI m0)), (3, .int (nI a0)), (4, .int (nI b0)), (5, .int (nI c0)), (6, .int (bI true))] [.int (nI (xFil k0 (dgt a0 k0) (dgt b0 k0) (dgt c0 k0)))] (fw mT G63 L) none 0 0
            refine fx_goto (tgt := 71) dX11_fillings_66 (by decide) ?_
            exact fx_iret dX11_fillings_71 rfl rfl rfl (by rw [hQ]; exact ⟨G63, by unfold xFls; rw [if_pos hin]; rfl, rfl, rfl, fun i a1 a2 a3 a4 a5 a6 a7 a8 a9 => (ho63 i a4 a5 a6 a7 a8).trans ((ho43 i a3).trans ((ho29 i a2).trans (ho15 i a1)))⟩)

/-- an answer of the model's; the boxes at work and the counts may have changed -/
def qmm (G : Nat → Nat → Int32) (L : Nat → Nat → Int64) (v : Int64) : Option Value → fv_F → Option Nat → Prop := fun r2 f2 al2 => ∃ (G2 : Nat → Nat → Int32) (L2 : Nat → Nat → Int64), r2 = some (.long v) ∧ f2 = fw mT G2 L2 ∧ al2 = none ∧ mof2 G G2 ∧ ∀ i, i ≠ 22 → i ≠ 23 → L2 i = L i
theorem mof2_r (G : Nat → Nat → Int32) : mof2 G G := fun _ _ _ _ _ _ _ _ _ _ => rfl
theorem mof2_t {G G2 G3 : Nat → Nat → Int32} (h : mof2 G G2) (h2 : mof2 G2 G3) : mof2 G G3 := fun i a b c d e f g x y => (h2 i a b c d e f g x y).trans (h i a b c d e f g x y)
theorem mof2_z {G G2 : Nat → Nat → Int32} (h : mof2 G G2) : G2 0 = G 0 ∧ G2 20 = G 20 := ⟨h 0 (by decide) (by decide) (by decide) (by decide) (by decide) (by decide) (by decide) (by decide) (by decide), h 20 (by decide) (by decide) (by decide) (by decide) (by decide) (by decide) (by decide) (by decide) (by decide)⟩
theorem mof2_1 {G G2 : Nat → Nat → Int32} {t : Nat} (ht : t = 12 ∨ t = 13 ∨ t = 14 ∨ t = 21) (h : ∀ i, i ≠ t → G2 i = G i) : mof2 G G2 := fun i a b c _ _ _ _ _ y => h i (by omega)
theorem mof2_f {G G2 : Nat → Nat → Int32} (h : ∀ i, i ≠ 15 → i ≠ 16 → i ≠ 17 → i ≠ 18 → i ≠ 19 → G2 i = G i) : mof2 G G2 := fun i _ _ _ d e f g x _ => h i d e f g x

set_option maxRecDepth 4000 in
set_option maxHeartbeats 1000000 in
theorem C11_meeting  (G : Nat → Nat → Int32) (L : Nat → Nat → Int64) (k m : Nat) (bs : List Nat) (hl : mlp G k m bs) (hk1 : 1 ≤ k) (hk : k ≤ 4) (hm1 : 1 ≤ m) (hm : m ≤ 4) (hbs : ∀ j, j < bs.length → bs.getD j 0 < 10000 ∧ bxv (dgt (bs.getD j 0) k) k m)  : fv_M Y11_meeting 3 0 0 [.ref 0] (fw mT G L) none (qmm G L (xMet k m bs)) := by
  refine fv_enter rfl (Nat.le_of_ble_eq_true rfl) ?_
  obtain ⟨Q, hQ⟩ : ∃ Q : Option Value → fv_F → Option Nat → Prop, Q = (qmm G L (xMet k m bs)) := ⟨_, rfl⟩
  rw [← hQ]
  show fv_At Y11_meeting 3 0 0 Q 0 [(0, .ref 0)] [] (fw mT G L) none 0 0
  have h16 := hl.2.2.2.1
  have hgk := gal_k k (by omega) m (by omega) hk1 hm1
  have hgf := gal_f hk1 hk hm1 hm
  have h10 : 10 ^ k ≤ 10 ^ 4 := Nat.pow_le_pow_right (by decide) hk
  obtain ⟨u, hu⟩ : ∃ u, u = 10 ^ k := ⟨_, rfl⟩
  rw [← hu] at h10 hgf
  have hav := gal_j hk hm hk1 hm1
  obtain ⟨al, hal⟩ : ∃ z, z = gal k m 0 := ⟨_, rfl⟩
  have hau : ∀ j, j < al.length → al.getD j 0 < 10 ^ k := fun j hj => by
    have w : al.getD j 0 ∈ gal k m 0 := by rw [← hal, List.getD_eq_getElem?_getD, List.getElem?_eq_getElem hj]; exact List.getElem_mem hj
    rw [← hgf] at w
    have w2 := List.mem_range'_1.mp (List.mem_filter.mp w).1
    omega
  have hab : ∀ j, j < al.length → isBx (k : Int) (m : Int) ((al.getD j 0 : Nat) : Int) = true := fun j hj => by
    have w : al.getD j 0 ∈ gal k m 0 := by rw [← hal, List.getD_eq_getElem?_getD, List.getElem?_eq_getElem hj]; exact List.getElem_mem hj
    rw [← hgf] at w
    exact (List.mem_filter.mp w).2
  have hpt : ∀ b o c, c < al.length → ptO k al b o c = ptN o (fun a => xFil k (dgt (al.getD a 0) k) (dgt b k) (dgt (al.getD c 0) k)) (c + 1) 0 0 := fun b o c hc => by
    rw [hal] at hc ⊢
    exact ptO_c hk1 hk hm1 hm (fun j hj => by have w := hau j (by rw [hal]; exact hj); rw [hal] at w; exact w) b o hc
  rw [← hal] at hgk hgf hav
  refine fx_aload_n dX11_meeting_0 rfl (i := 0) rfl ?_
  refine fw_geti dX11_meeting_1 fd11_109 rfl rfl ?_
  refine fn_to (show _ = (nI k) from hl.1) ?_
  refine fx_istore_n (lv2 := [(0, .ref 0), (1, .int (nI k))]) dX11_meeting_4 (i := 1) rfl (by decide) rfl ?_
  refine fx_iconst (v := (nI 0)) dX11_meeting_5 (by decide) ?_
  refine fx_istore_n (lv2 := [(0, .ref 0), (1, .int (nI k)), (2, .int (nI 0))]) dX11_meeting_6 (i := 2) rfl (by decide) rfl ?_
  refine fx_iconst (v := (nI 0)) dX11_meeting_7 (by decide) ?_
  refine fx_istore_n (lv2 := [(0, .ref 0), (1, .int (nI k)), (2, .int (nI 0)), (3, .int (nI 0))]) dX11_meeting_8 (i := 3) rfl (by decide) rfl ?_
  have L9 : ∀ (j1 : Nat) (c : Nat) (P : Nat) (bl : List Nat) (G1 : Nat → Nat → Int32) (L1 : Nat → Nat → Int64), (c + j1 = u) → (bl ++ (List.range' c j1).filter (fun c : Nat => isBx (k : Int) (m : Int) (c : Int)) = al) → (P = bl.length) → (∀ q, q < P → G1 21 q = nI (bl.getD q 0)) → (∀ q, q < P → L1 22 q = o1 q) → (mof2 G G1) → (∀ i, i ≠ 22 → i ≠ 23 → L1 i = L i) → fv_At Y11_meeting 3 0 0 Q 9 [(0, .ref 0), (1, .int (nI k)), (2, .int (nI P)), (3, .int (nI c))] [] (fw mT G1 L1) none 0 0 := by
    intro j1
    induction j1 with
    | zero =>
      intro c P bl G1 L1 hc hbl hn hbx htm hoG1 hoL1
      refine fx_iload_n dX11_meeting_9 rfl (i := 3) rfl ?_
      refine fx_iload_n dX11_meeting_10 rfl (i := 1) rfl ?_
      refine fn_cS dX11_meeting_11 lk11_220 (C11_tens (n := k) (by omega) (f := (fw mT G1 L1))) rfl rfl (by decide) (Nat.le_of_ble_eq_true rfl) ?_
      show fv_At Y11_meeting 3 0 0 Q 14 [(0, .ref 0), (1, .int (nI k)), (2, .int (nI P)), (3, .int (nI c))] [.int (nI (10 ^ k)), .int (nI c)] (fw mT G1 L1) none 0 0
      refine fn_icmp_ge (tgt := 64) dX11_meeting_14 (by decide) (by omega) (by rw [← hu]; omega) (fun c14 => ?_) (fun c14 => ?_)
      · skip
        have hba : bl = al := by rw [← hbl]; exact (List.append_nil _).symm
        have hPl : P = al.length := by rw [← hba]; exact hn
        have hbx2 : ∀ q, q < al.length → G1 21 q = nI (al.getD q 0) := by rw [← hba]; intro q h; exact hbx q (by omega)
        have htm2 : ∀ q, q < al.length → L1 22 q = o1 q := by rw [← hba]; intro q h; exact htm q (by omega)
        refine fx_iconst (v := (nI 0)) dX11_meeting_64 (by decide) ?_
        refine fx_istore_n (lv2 := [(0, .ref 0), (1, .int (nI k)), (2, .int (nI P)), (3, .int (nI 0))]) dX11_meeting_65 (i := 3) rfl (by decide) rfl ?_
        have L66 : ∀ (j2 : Nat) (l : Nat) (o : Nat → Int64) (G2 : Nat → Nat → Int32) (L2 : Nat → Nat → Int64), (l + j2 = bs.length) → (∀ q, q < al.length → G2 21 q = nI (al.getD q 0)) → (∀ q, q < al.length → L2 22 q = o q) → (mof2 G G2) → (∀ i, i ≠ 22 → i ≠ 23 → L2 i = L i) → (mtF k al (bs.drop l) o = mtF k al bs o1) → fv_At Y11_meeting 3 0 0 Q 66 [(0, .ref 0), (1, .int (nI k)), (2, .int (nI P)), (3, .int (nI l))] [] (fw mT G2 L2) none 0 0 := by
          intro j2
          induction j2 with
          | zero =>
            intro l o G2 L2 hl2 hbxG hO hoG2 hoL2 hR
            refine fx_iload_n dX11_meeting_66 rfl (i := 3) rfl ?_
            refine fx_aload_n dX11_meeting_67 rfl (i := 0) rfl ?_
            refine fw_geti dX11_meeting_68 fd11_234 rfl rfl ?_
            refine fn_to (show _ = (nI bs.length) from (by rw [(mof2_z hoG2).1]; exact hl.2.2.1)) ?_
            refine fn_icmp_ge (tgt := 247) dX11_meeting_71 (by decide) (by omega) (by omega) (fun c71 => ?_) (fun c71 => ?_)
            · skip
              have hoN : o = mtF k al bs o1 := by rw [← hR, List.drop_eq_nil_of_le (by omega)]; rfl
              refine fx_aload_n dX11_meeting_247 rfl (i := 0) rfl ?_
              refine fw_getr dX11_meeting_248 fd11_76 rfl rfl ?_
              refine fx_iload_n dX11_meeting_251 rfl (i := 2) rfl ?_
              refine fx_iconst (v := (nI 1)) dX11_meeting_252 (by decide) ?_
              refine fn_isub dX11_meeting_253 (by omega) ?_
              refine fw_lald (P - 1) dX11_meeting_254 rfl rfl (by omega) (by decide) ?_
              refine fn_toL (show _ = (o (P - 1)) from (hO _ (by omega))) ?_
              exact fx_lret dX11_meeting_255 rfl rfl rfl (by rw [hQ]; exact ⟨G2, L2, by rw [hoN, hPl]; unfold xMet; rw [← hal], rfl, rfl, hoG2, hoL2⟩)
            · exfalso; omega
          | succ j2 ih66 =>
            intro l o G2 L2 hl2 hbxG hO hoG2 hoL2 hR
            refine fx_iload_n dX11_meeting_66 rfl (i := 3) rfl ?_
            refine fx_aload_n dX11_meeting_67 rfl (i := 0) rfl ?_
            refine fw_geti dX11_meeting_68 fd11_234 rfl rfl ?_
            refine fn_to (show _ = (nI bs.length) from (by rw [(mof2_z hoG2).1]; exact hl.2.2.1)) ?_
            refine fn_icmp_ge (tgt := 247) dX11_meeting_71 (by decide) (by omega) (by omega) (fun c71 => ?_) (fun c71 => ?_)
            · exfalso; omega
            · skip
              have hb4 := hbs l (by omega)
              refine fx_iload_n dX11_meeting_74 rfl (i := 1) rfl ?_
              refine fx_aload_n dX11_meeting_75 rfl (i := 0) rfl ?_
              refine fw_geti dX11_meeting_76 fd11_113 rfl rfl ?_
              refine fn_to (show _ = (nI m) from (by rw [(mof2_z hoG2).1]; exact hl.2.1)) ?_
              refine fx_aload_n dX11_meeting_79 rfl (i := 0) rfl ?_
              refine fw_getr dX11_meeting_80 fd11_70 rfl rfl ?_
              refine fx_iload_n dX11_meeting_83 rfl (i := 3) rfl ?_
              refine fw_iald l dX11_meeting_84 rfl rfl (by omega) (by decide) ?_
              refine fn_to (show _ = (nI (bs.getD l 0)) from (by rw [(mof2_z hoG2).2]; exact hl.2.2.2.2 l (by omega))) ?_
              refine fx_aload_n dX11_meeting_85 rfl (i := 0) rfl ?_
              refine fw_getr dX11_meeting_86 fd11_49 rfl rfl ?_
              refine fx_callS dX11_meeting_89 lk11_214 (C11_isBox G2 L2 13 rfl k m (by omega) (by omega) (by omega) (by omega) ((bs.getD l 0 : Nat) : Int) (by omega) (by omega)) rfl rfl (by decide) (Nat.le_of_ble_eq_true rfl) (by decide) (by decide) (fun r89 f89 al89 h89 => ?_)
              obtain ⟨G89, rfl, rfl, rfl, ho89, hd89⟩ := h89
              show fv_At Y11_meeting 3 0 0 Q 92 [(0, .ref 0), (1, .int (nI k)), (2, .int (nI P)), (3, .int (nI l))] [.int (bI (isBx (k : Int) (m : Int) ((bs.getD l 0 : Nat) : Int)))] (fw mT G89 L2) none 0 0
              refine fx_istore (lv2 := [(0, .ref 0), (1, .int (nI k)), (2, .int (nI P)), (3, .int (nI l)), (4, .int (bI (isBx (k : Int) (m : Int) ((bs.getD l 0 : Nat) : Int))))]) dX11_meeting_92 (by decide) rfl ?_
              refine fx_iconst (v := (nI 0)) dX11_meeting_94 (by decide) ?_
              refine fx_istore (lv2 := [(0, .ref 0), (1, .int (nI k)), (2, .int (nI P)), (3, .int (nI l)), (4, .int (bI (isBx (k : Int) (m : Int) ((bs.getD l 0 : Nat) : Int)))), (5, .int (nI 0))]) dX11_meeting_95 (by decide) rfl ?_
              have L97 : ∀ (j3 : Nat) (c2 : Nat) (G3 : Nat → Nat → Int32) (L3 : Nat → Nat → Int64), (c2 + j3 = P) → (∀ q, q < al.length → G3 21 q = nI (al.getD q 0)) → (∀ q, q < al.length → L3 22 q = o q) → (∀ q, q < c2 → L3 23 q = ptO k al (bs.getD l 0) o q) → (∀ p, p < k → G3 13 p = nI (dgt (bs.getD l 0) k p)) → (mof2 G G3) → (∀ i, i ≠ 22 → i ≠ 23 → L3 i = L i) → fv_At Y11_meeting 3 0 0 Q 97 [(0, .ref 0), (1, .int (nI k)), (2, .int (nI P)), (3, .int (nI l)), (5, .int (nI c2))] [] (fw mT G3 L3) none 0 0 := by
                intro j3
                induction j3 with
                | zero =>
                  intro c2 G3 L3 hc2 hbx3 hO3 hN3 hdB3 hoG3 hoL3
                  refine fx_iload dX11_meeting_97 rfl ?_
                  refine fx_iload_n dX11_meeting_99 rfl (i := 2) rfl ?_
                  refine fn_icmp_ge (tgt := 212) dX11_meeting_100 (by decide) (by omega) (by omega) (fun c100 => ?_) (fun c100 => ?_)
                  · skip
                    refine fx_iconst (v := (nI 0)) dX11_meeting_212 (by decide) ?_
                    refine fx_istore (lv2 := [(0, .ref 0), (1, .int (nI k)), (2, .int (nI P)), (3, .int (nI l)), (5, .int (nI 0))]) dX11_meeting_213 (by decide) rfl ?_
                    have L215 : ∀ (j5 : Nat) (c5 : Nat) (L5 : Nat → Nat → Int64), (c5 + j5 = P) → (∀ q, q < P → L5 23 q = ptO k al (bs.getD l 0) o q) → (∀ q, q < c5 → L5 22 q = ptO k al (bs.getD l 0) o q) → (∀ i, i ≠ 22 → i ≠ 23 → L5 i = L i) → fv_At Y11_meeting 3 0 0 Q 215 [(0, .ref 0), (1, .int (nI k)), (2, .int (nI P)), (3, .int (nI l)), (5, .int (nI c5))] [] (fw mT G3 L5) none 0 0 := by
                      intro j5
                      induction j5 with
                      | zero =>
                        intro c5 L5 hc5 hN5 hD5 hoL5
                        refine fx_iload dX11_meeting_215 rfl ?_
                        refine fx_iload_n dX11_meeting_217 rfl (i := 2) rfl ?_
                        refine fn_icmp_ge (tgt := 241) dX11_meeting_218 (by decide) (by omega) (by omega) (fun c218 => ?_) (fun c218 => ?_)
                        · skip
                          refine fn_iinc (c := 1) (lv2 := [(0, .ref 0), (1, .int (nI k)), (2, .int (nI P)), (3, .int (nI (l + 1))), (5, .int (nI c5))]) dX11_meeting_241 (by decide) rfl (by decide) rfl ?_
                          refine fx_goto (tgt := 66) dX11_meeting_244 (by decide) ?_
                          exact fn_sub [0, 1, 2, 3] rfl (ih66 (l + 1) (ptO k al (bs.getD l 0) o) G3 L5 (by omega) hbx3 (fun q h => hD5 q (by omega)) hoG3 hoL5 (by rw [← hR, mtF_s (show l < bs.length by omega)]))
                        · exfalso; omega
                      | succ j5 ih215 =>
                        intro c5 L5 hc5 hN5 hD5 hoL5
                        refine fx_iload dX11_meeting_215 rfl ?_
                        refine fx_iload_n dX11_meeting_217 rfl (i := 2) rfl ?_
                        refine fn_icmp_ge (tgt := 241) dX11_meeting_218 (by decide) (by omega) (by omega) (fun c218 => ?_) (fun c218 => ?_)
                        · exfalso; omega
                        · skip
                          refine fx_aload_n dX11_meeting_221 rfl (i := 0) rfl ?_
                          refine fw_getr dX11_meeting_222 fd11_76 rfl rfl ?_
                          refine fx_iload dX11_meeting_225 rfl ?_
                          refine fx_aload_n dX11_meeting_227 rfl (i := 0) rfl ?_
                          refine fw_getr dX11_meeting_228 fd11_79 rfl rfl ?_
                          refine fx_iload dX11_meeting_231 rfl ?_
                          refine fw_lald c5 dX11_meeting_233 rfl rfl (by omega) (by decide) ?_
                          refine fn_toL (show _ = (ptO k al (bs.getD l 0) o c5) from (hN5 c5 (by omega))) ?_
                          refine fw_last c5 dX11_meeting_234 rfl rfl (by omega) (by decide) ?_
                          refine fn_iinc (c := 1) (lv2 := [(0, .ref 0), (1, .int (nI k)), (2, .int (nI P)), (3, .int (nI l)), (5, .int (nI (c5 + 1)))]) dX11_meeting_235 (by decide) rfl (by decide) rfl ?_
                          refine fx_goto (tgt := 215) dX11_meeting_238 (by decide) ?_
                          exact (ih215 (c5 + 1) (g2 L5 22 c5 ((ptO k al (bs.getD l 0) o c5))) (by omega) (fun q h => (g2_ne _ _ (by omega)).trans (hN5 q h)) (fun q h => by by_cases z : q = c5; (rw [z]; exact g2_eq _ _ _ _); exact (g2_ne _ _ (by omega)).trans (hD5 q (by omega))) (fun i h h2 => (g2_rowL h).trans (hoL5 i h h2)))
                    exact (L215 P 0 L3 (by omega) (fun q h => hN3 q (by omega)) (fun q h => absurd h (Nat.not_lt_zero _)) hoL3)
                  · exfalso; omega
                | succ j3 ih97 =>
                  intro c2 G3 L3 hc2 hbx3 hO3 hN3 hdB3 hoG3 hoL3
                  refine fx_iload dX11_meeting_97 rfl ?_
                  refine fx_iload_n dX11_meeting_99 rfl (i := 2) rfl ?_
                  refine fn_icmp_ge (tgt := 212) dX11_meeting_100 (by decide) (by omega) (by omega) (fun c100 => ?_) (fun c100 => ?_)
                  · exfalso; omega
                  · skip
                    have hc4 := hav c2 (by omega)
                    refine fx_iload_n dX11_meeting_103 rfl (i := 1) rfl ?_
                    refine fx_aload_n dX11_meeting_104 rfl (i := 0) rfl ?_
                    refine fw_geti dX11_meeting_105 fd11_113 rfl rfl ?_
                    refine fn_to (show _ = (nI m) from (by rw [(mof2_z hoG3).1]; exact hl.2.1)) ?_
                    refine fx_aload_n dX11_meeting_108 rfl (i := 0) rfl ?_
                    refine fw_getr dX11_meeting_109 fd11_73 rfl rfl ?_
                    refine fx_iload dX11_meeting_112 rfl ?_
                    refine fw_iald c2 dX11_meeting_114 rfl rfl (by omega) (by decide) ?_
                    refine fn_to (show _ = (nI (al.getD c2 0)) from (hbx3 c2 (by omega))) ?_
                    refine fx_aload_n dX11_meeting_115 rfl (i := 0) rfl ?_
                    refine fw_getr dX11_meeting_116 fd11_52 rfl rfl ?_
                    refine fx_callS dX11_meeting_119 lk11_214 (C11_isBox G3 L3 14 rfl k m (by omega) (by omega) (by omega) (by omega) ((al.getD c2 0 : Nat) : Int) (by omega) (by omega)) rfl rfl (by decide) (Nat.le_of_ble_eq_true rfl) (by decide) (by decide) (fun r119 f119 al119 h119 => ?_)
                    obtain ⟨G119, rfl, rfl, rfl, ho119, hd119⟩ := h119
                    show fv_At Y11_meeting 3 0 0 Q 122 [(0, .ref 0), (1, .int (nI k)), (2, .int (nI P)), (3, .int (nI l)), (5, .int (nI c2))] [.int (bI (isBx (k : Int) (m : Int) ((al.getD c2 0 : Nat) : Int)))] (fw mT G119 L3) none 0 0
                    refine fx_istore (lv2 := [(0, .ref 0), (1, .int (nI k)), (2, .int (nI P)), (3, .int (nI l)), (4, .int (bI (isBx (k : Int) (m : Int) ((al.getD c2 0 : Nat) : Int)))), (5, .int (nI c2))]) dX11_meeting_122 (by decide) rfl ?_
                    refine fx_aload_n dX11_meeting_124 rfl (i := 0) rfl ?_
                    refine fw_getr dX11_meeting_125 fd11_79 rfl rfl ?_
                    refine fx_iload dX11_meeting_128 rfl ?_
                    refine fx_lconst (v := 0) dX11_meeting_130 (by decide) ?_
                    refine fw_last c2 dX11_meeting_131 rfl rfl (by omega) (by decide) ?_
                    refine fx_iconst (v := (nI 0)) dX11_meeting_132 (by decide) ?_
                    refine fx_istore (lv2 := [(0, .ref 0), (1, .int (nI k)), (2, .int (nI P)), (3, .int (nI l)), (4, .int (bI (isBx (k : Int) (m : Int) ((al.getD c2 0 : Nat) : Int)))), (5, .int (nI c2)), (6, .int (nI 0))]) dX11_meeting_133 (by decide) rfl ?_
                    have L135 : ∀ (j4 : Nat) (a : Nat) (x : Int64) (G4 : Nat → Nat → Int32) (L4 : Nat → Nat → Int64), (a + j4 = c2 + 1) → (∀ q, q < al.length → G4 21 q = nI (al.getD q 0)) → (∀ q, q < al.length → L4 22 q = o q) → (∀ q, q < c2 → L4 23 q = ptO k al (bs.getD l 0) o q) → (L4 23 c2 = x) → (∀ p, p < k → G4 13 p = nI (dgt (bs.getD l 0) k p)) → (∀ p, p < k → G4 14 p = nI (dgt (al.getD c2 0) k p)) → (mof2 G G4) → (∀ i, i ≠ 22 → i ≠ 23 → L4 i = L i) → (ptN o (fun a => xFil k (dgt (al.getD a 0) k) (dgt (bs.getD l 0) k) (dgt (al.getD c2 0) k)) j4 a x = ptN o (fun a => xFil k (dgt (al.getD a 0) k) (dgt (bs.getD l 0) k) (dgt (al.getD c2 0) k)) (c2 + 1) 0 0) → fv_At Y11_meeting 3 0 0 Q 135 [(0, .ref 0), (1, .int (nI k)), (2, .int (nI P)), (3, .int (nI l)), (5, .int (nI c2)), (6, .int (nI a))] [] (fw mT G4 L4) none 0 0 := by
                      intro j4
                      induction j4 with
                      | zero =>
                        intro a x G4 L4 ha hbx4 hO4 hN4 hx hdB4 hdC4 hoG4 hoL4 hR4
                        refine fx_iload dX11_meeting_135 rfl ?_
                        refine fx_iload dX11_meeting_137 rfl ?_
                        refine fn_icmp_gt (tgt := 206) dX11_meeting_139 (by decide) (by omega) (by omega) (fun c139 => ?_) (fun c139 => ?_)
                        · skip
                          refine fn_iinc (c := 1) (lv2 := [(0, .ref 0), (1, .int (nI k)), (2, .int (nI P)), (3, .int (nI l)), (5, .int (nI (c2 + 1))), (6, .int (nI a))]) dX11_meeting_206 (by decide) rfl (by decide) rfl ?_
                          refine fx_goto (tgt := 97) dX11_meeting_209 (by decide) ?_
                          exact fn_sub [0, 1, 2, 3, 4] rfl (ih97 (c2 + 1) G4 L4 (by omega) hbx4 hO4 (fun q h => by by_cases z : q = c2; (rw [z, hx, hpt _ _ _ (by omega)]; exact hR4); exact hN4 q (by omega)) hdB4 hoG4 hoL4)
                        · exfalso; omega
                      | succ j4 ih135 =>
                        intro a x G4 L4 ha hbx4 hO4 hN4 hx hdB4 hdC4 hoG4 hoL4 hR4
                        refine fx_iload dX11_meeting_135 rfl ?_
                        refine fx_iload dX11_meeting_137 rfl ?_
                        refine fn_icmp_gt (tgt := 206) dX11_meeting_139 (by decide) (by omega) (by omega) (fun c139 => ?_) (fun c139 => ?_)
                        · exfalso; omega
                        · skip
                          refine fx_aload_n dX11_meeting_142 rfl (i := 0) rfl ?_
                          refine fw_getr dX11_meeting_143 fd11_76 rfl rfl ?_
                          refine fx_iload dX11_meeting_146 rfl ?_
                          refine fw_lald a dX11_meeting_148 rfl rfl (by omega) (by decide) ?_
                          refine fn_toL (show _ = (o a) from (hO4 a (by omega))) ?_
                          refine fx_lconst (v := 0) dX11_meeting_149 (by decide) ?_
                          refine fx_lcmp dX11_meeting_150 ?_
                          refine fn_if_eqC (tgt := 200) dX11_meeting_151 (by decide) (fun c151 => ?_) (fun c151 => ?_)
                          · skip
                            refine fn_iinc (c := 1) (lv2 := [(0, .ref 0), (1, .int (nI k)), (2, .int (nI P)), (3, .int (nI l)), (5, .int (nI c2)), (6, .int (nI (a + 1)))]) dX11_meeting_200 (by decide) rfl (by decide) rfl ?_
                            refine fx_goto (tgt := 135) dX11_meeting_203 (by decide) ?_
                            exact (ih135 (a + 1) x G4 L4 (by omega) hbx4 hO4 hN4 hx hdB4 hdC4 hoG4 hoL4 (by rw [← hR4, ptN_s, if_pos c151]))
                          · skip
                            have ha4 := hav a (by omega)
                            refine fx_iload_n dX11_meeting_154 rfl (i := 1) rfl ?_
                            refine fx_aload_n dX11_meeting_155 rfl (i := 0) rfl ?_
                            refine fw_geti dX11_meeting_156 fd11_113 rfl rfl ?_
                            refine fn_to (show _ = (nI m) from (by rw [(mof2_z hoG4).1]; exact hl.2.1)) ?_
                            refine fx_aload_n dX11_meeting_159 rfl (i := 0) rfl ?_
                            refine fw_getr dX11_meeting_160 fd11_73 rfl rfl ?_
                            refine fx_iload dX11_meeting_163 rfl ?_
                            refine fw_iald a dX11_meeting_165 rfl rfl (by omega) (by decide) ?_
                            refine fn_to (show _ = (nI (al.getD a 0)) from (hbx4 a (by omega))) ?_
                            refine fx_aload_n dX11_meeting_166 rfl (i := 0) rfl ?_
                            refine fw_getr dX11_meeting_167 fd11_46 rfl rfl ?_
                            refine fx_callS dX11_meeting_170 lk11_214 (C11_isBox G4 L4 12 rfl k m (by omega) (by omega) (by omega) (by omega) ((al.getD a 0 : Nat) : Int) (by omega) (by omega)) rfl rfl (by decide) (Nat.le_of_ble_eq_true rfl) (by decide) (by decide) (fun r170 f170 al170 h170 => ?_)
                            obtain ⟨G170, rfl, rfl, rfl, ho170, hd170⟩ := h170
                            show fv_At Y11_meeting 3 0 0 Q 173 [(0, .ref 0), (1, .int (nI k)), (2, .int (nI P)), (3, .int (nI l)), (5, .int (nI c2)), (6, .int (nI a))] [.int (bI (isBx (k : Int) (m : Int) ((al.getD a 0 : Nat) : Int)))] (fw mT G170 L4) none 0 0
                            refine fn_if_eqB (tgt := 200) dX11_meeting_173 (by decide) (fun c173 => ?_) (fun c173 => ?_)
                            · exact absurd ((hab a (by omega)).symm.trans c173) (by decide)
                            · skip
                              refine fx_aload_n dX11_meeting_176 rfl (i := 0) rfl ?_
                              refine fw_getr dX11_meeting_177 fd11_79 rfl rfl ?_
                              refine fx_iload dX11_meeting_180 rfl ?_
                              refine fx_dup2 dX11_meeting_182 rfl rfl ?_
                              refine fw_lald c2 dX11_meeting_183 rfl rfl (by omega) (by decide) ?_
                              refine fn_toL (show _ = x from hx) ?_
                              refine fx_aload_n dX11_meeting_184 rfl (i := 0) rfl ?_
                              refine fw_getr dX11_meeting_185 fd11_76 rfl rfl ?_
                              refine fx_iload dX11_meeting_188 rfl ?_
                              refine fw_lald a dX11_meeting_190 rfl rfl (by omega) (by decide) ?_
                              refine fn_toL (show _ = (o a) from (hO4 a (by omega))) ?_
                              refine fx_aload_n dX11_meeting_191 rfl (i := 0) rfl ?_
                              refine fx_iload_n dX11_meeting_192 rfl (i := 1) rfl ?_
                              refine fx_callV dX11_meeting_193 lk11_231 fv_c8 rfl (fw_at (show mT 0 = some (3, 8, 38, [some 1, none, some 2, some 3, some 4, some 5, some 6, some 7, some 8, some 9, some 10, some 11, some 12, some 13, some 14, some 15, some 16, some 17, some 18, some 19, none, none, none, some 20, some 21, some 22, some 23, none, some 24, some 25, some 26, some 27, some 28, some 29, some 30, some 31, none, some 32]) from rfl)) (C11_fills G170 L4 k m (by omega) (by omega) (by omega) (dgt (al.getD a 0) k) (dgt (bs.getD l 0) k) (dgt (al.getD c2 0) k) hc4.2 (fun p => ⟨dgt_lt _ _ _, dgt_lt _ _ _⟩) (fun p hp => ⟨hd170 (by omega) p hp, by rw [ho170 13 (by decide)]; exact hdB4 p hp, by rw [ho170 14 (by decide)]; exact hdC4 p hp⟩)) rfl rfl (by decide) (Nat.le_of_ble_eq_true rfl) (by decide) (by decide) (fun r193 f193 al193 h193 => ?_)
                              obtain ⟨G193, rfl, rfl, rfl, ho193⟩ := h193
                              show fv_At Y11_meeting 3 0 0 Q 196 [(0, .ref 0), (1, .int (nI k)), (2, .int (nI P)), (3, .int (nI l)), (5, .int (nI c2)), (6, .int (nI a))] [.int (nI (xFil k (dgt (al.getD a 0) k) (dgt (bs.getD l 0) k) (dgt (al.getD c2 0) k))), .long (o a), .long x, .int (nI c2), .ref 23] (fw mT G193 L4) none 0 0
                              refine fx_i2l dX11_meeting_196 ?_
                              refine fx_lmul dX11_meeting_197 ?_
                              refine fx_ladd dX11_meeting_198 ?_
                              refine fw_last c2 dX11_meeting_199 rfl rfl (by omega) (by decide) ?_
                              refine fn_iinc (c := 1) (lv2 := [(0, .ref 0), (1, .int (nI k)), (2, .int (nI P)), (3, .int (nI l)), (5, .int (nI c2)), (6, .int (nI (a + 1)))]) dX11_meeting_200 (by decide) rfl (by decide) rfl ?_
                              refine fx_goto (tgt := 135) dX11_meeting_203 (by decide) ?_
                              exact (ih135 (a + 1) (x + o a * (nI (xFil k (dgt (al.getD a 0) k) (dgt (bs.getD l 0) k) (dgt (al.getD c2 0) k))).toInt64) G193 (g2 L4 23 c2 ((x + ((((o a)) * ((((nI (xFil k (dgt (al.getD a 0) k) (dgt (bs.getD l 0) k) (dgt (al.getD c2 0) k)))).toInt64))))))) (by omega) (fun q h => by rw [ho193 21 (by decide) (by decide) (by decide) (by decide) (by decide), ho170 21 (by decide)]; exact hbx4 q h) (fun q h => (g2_ne _ _ (by omega)).trans (hO4 q h)) (fun q h => (g2_ne _ _ (by omega)).trans (hN4 q h)) (g2_eq _ _ _ _) (fun p hp => by rw [ho193 13 (by decide) (by decide) (by decide) (by decide) (by decide), ho170 13 (by decide)]; exact hdB4 p hp) (fun p hp => by rw [ho193 14 (by decide) (by decide) (by decide) (by decide) (by decide), ho170 14 (by decide)]; exact hdC4 p hp) (mof2_t (mof2_t hoG4 (mof2_1 (t := 12) (by decide) ho170)) (mof2_f ho193)) (fun i h h2 => (g2_rowL h2).trans (hoL4 i h h2)) (by rw [← hR4, ptN_s, if_neg c151]))
                    exact fn_sub [0, 1, 2, 3, 5, 6] rfl (L135 (c2 + 1) 0 0 G119 (g2 L3 23 c2 0) (by omega) (fun q h => by rw [ho119 21 (by decide)]; exact hbx3 q h) (fun q h => (g2_ne _ _ (by omega)).trans (hO3 q h)) (fun q h => (g2_ne _ _ (by omega)).trans (hN3 q h)) (g2_eq _ _ _ _) (fun p hp => by rw [ho119 13 (by decide)]; exact hdB3 p hp) (fun p hp => hd119 (by omega) p hp) (mof2_t hoG3 (mof2_1 (t := 14) (by decide) ho119)) (fun i h h2 => (g2_rowL h2).trans (hoL3 i h h2)) rfl)
              exact fn_sub [0, 1, 2, 3, 5] rfl (L97 P 0 G89 L2 (by omega) (fun q h => by rw [ho89 21 (by decide)]; exact hbxG q h) hO (fun q h => absurd h (Nat.not_lt_zero _)) (fun p hp => hd89 (by omega) p hp) (mof2_t hoG2 (mof2_1 (t := 13) (by decide) ho89)) hoL2)
        exact (L66 bs.length 0 o1 G1 L1 (by omega) hbx2 htm2 hoG1 hoL1 rfl)
      · (exfalso; rw [← hu] at c14; omega)
    | succ j1 ih9 =>
      intro c P bl G1 L1 hc hbl hn hbx htm hoG1 hoL1
      refine fx_iload_n dX11_meeting_9 rfl (i := 3) rfl ?_
      refine fx_iload_n dX11_meeting_10 rfl (i := 1) rfl ?_
      refine fn_cS dX11_meeting_11 lk11_220 (C11_tens (n := k) (by omega) (f := (fw mT G1 L1))) rfl rfl (by decide) (Nat.le_of_ble_eq_true rfl) ?_
      show fv_At Y11_meeting 3 0 0 Q 14 [(0, .ref 0), (1, .int (nI k)), (2, .int (nI P)), (3, .int (nI c))] [.int (nI (10 ^ k)), .int (nI c)] (fw mT G1 L1) none 0 0
      refine fn_icmp_ge (tgt := 64) dX11_meeting_14 (by decide) (by omega) (by rw [← hu]; omega) (fun c14 => ?_) (fun c14 => ?_)
      · (exfalso; rw [← hu] at c14; omega)
      · skip
        refine fx_iload_n dX11_meeting_17 rfl (i := 1) rfl ?_
        refine fx_aload_n dX11_meeting_18 rfl (i := 0) rfl ?_
        refine fw_geti dX11_meeting_19 fd11_113 rfl rfl ?_
        refine fn_to (show _ = (nI m) from (by rw [(mof2_z hoG1).1]; exact hl.2.1)) ?_
        refine fx_iload_n dX11_meeting_22 rfl (i := 3) rfl ?_
        refine fx_aload_n dX11_meeting_23 rfl (i := 0) rfl ?_
        refine fw_getr dX11_meeting_24 fd11_52 rfl rfl ?_
        refine fx_callS dX11_meeting_27 lk11_214 (C11_isBox G1 L1 14 rfl k m (by omega) (by omega) (by omega) (by omega) ((c : Nat) : Int) (by omega) (by omega)) rfl rfl (by decide) (Nat.le_of_ble_eq_true rfl) (by decide) (by decide) (fun r27 f27 al27 h27 => ?_)
        obtain ⟨G27, rfl, rfl, rfl, ho27, hd27⟩ := h27
        show fv_At Y11_meeting 3 0 0 Q 30 [(0, .ref 0), (1, .int (nI k)), (2, .int (nI P)), (3, .int (nI c))] [.int (bI (isBx (k : Int) (m : Int) ((c : Nat) : Int)))] (fw mT G27 L1) none 0 0
        refine fn_if_eqB (tgt := 58) dX11_meeting_30 (by decide) (fun c30 => ?_) (fun c30 => ?_)
        · skip
          refine fn_iinc (c := 1) (lv2 := [(0, .ref 0), (1, .int (nI k)), (2, .int (nI P)), (3, .int (nI (c + 1)))]) dX11_meeting_58 (by decide) rfl (by decide) rfl ?_
          refine fx_goto (tgt := 9) dX11_meeting_61 (by decide) ?_
          exact (ih9 (c + 1) P bl G27 L1 (by omega) (by rw [← hbl, r1_s, List.filter_cons, if_neg (by rw [c30]; decide)]) hn (fun q h => by rw [ho27 21 (by decide)]; exact hbx q h) htm (mof2_t hoG1 (mof2_1 (t := 14) (by decide) ho27)) hoL1)
        · skip
          have hfs : (List.range' c (j1 + 1)).filter (fun c : Nat => isBx (k : Int) (m : Int) (c : Int)) = c :: (List.range' (c + 1) j1).filter (fun c : Nat => isBx (k : Int) (m : Int) (c : Int)) := by rw [r1_s, List.filter_cons, if_pos c30]
          have hln : bl.length + ((List.range' (c + 1) j1).filter (fun c : Nat => isBx (k : Int) (m : Int) (c : Int))).length + 1 = al.length := by rw [← hgf, hgf, ← hbl, List.length_append, hfs, List.length_cons]; omega
          refine fx_aload_n dX11_meeting_33 rfl (i := 0) rfl ?_
          refine fw_getr dX11_meeting_34 fd11_73 rfl rfl ?_
          refine fx_iload_n dX11_meeting_37 rfl (i := 2) rfl ?_
          refine fx_iload_n dX11_meeting_38 rfl (i := 3) rfl ?_
          refine fw_iast P dX11_meeting_39 rfl rfl (by omega) (by decide) ?_
          refine fx_aload_n dX11_meeting_40 rfl (i := 0) rfl ?_
          refine fw_getr dX11_meeting_41 fd11_76 rfl rfl ?_
          refine fx_iload_n dX11_meeting_44 rfl (i := 2) rfl ?_
          refine fx_iload_n dX11_meeting_45 rfl (i := 2) rfl ?_
          refine fn_if_ne (tgt := 53) dX11_meeting_46 (by decide) (by omega) (fun c46 => ?_) (fun c46 => ?_)
          · skip
            refine fx_lconst (v := 0) dX11_meeting_53 (by decide) ?_
            refine fw_last P dX11_meeting_54 rfl rfl (by omega) (by decide) ?_
            refine fn_iinc (c := 1) (lv2 := [(0, .ref 0), (1, .int (nI k)), (2, .int (nI (P + 1))), (3, .int (nI c))]) dX11_meeting_55 (by decide) rfl (by decide) rfl ?_
            refine fn_iinc (c := 1) (lv2 := [(0, .ref 0), (1, .int (nI k)), (2, .int (nI (P + 1))), (3, .int (nI (c + 1)))]) dX11_meeting_58 (by decide) rfl (by decide) rfl ?_
            refine fx_goto (tgt := 9) dX11_meeting_61 (by decide) ?_
            exact (ih9 (c + 1) (P + 1) (bl ++ [c]) (g2 G27 21 P ((nI c))) (g2 L1 22 P 0) (by omega) (by rw [← hbl, hfs, List.append_assoc]; rfl) (by rw [List.length_append, hn]; rfl) (fun q h => by by_cases z : q = P; (rw [z, g2_eq, hn, gdN_e]); rw [g2_ne _ _ (by omega), ho27 21 (by decide), gdN_l _ _ (by omega)]; exact hbx q (by omega)) (fun q h => by by_cases z : q = P; (rw [z, g2_eq]; unfold o1; first | rw [if_pos c46] | rw [if_neg c46]); rw [g2_ne _ _ (by omega)]; exact htm q (by omega)) (mof2_t (mof2_t hoG1 (mof2_1 (t := 14) (by decide) ho27)) (mof2_1 (t := 21) (by decide) (fun i h => g2_row _ _ h))) (fun i h h2 => (g2_rowL h).trans (hoL1 i h h2)))
          · skip
            refine fx_lconst (v := 1) dX11_meeting_49 (by decide) ?_
            refine fx_goto (tgt := 54) dX11_meeting_50 (by decide) ?_
            refine fw_last P dX11_meeting_54 rfl rfl (by omega) (by decide) ?_
            refine fn_iinc (c := 1) (lv2 := [(0, .ref 0), (1, .int (nI k)), (2, .int (nI (P + 1))), (3, .int (nI c))]) dX11_meeting_55 (by decide) rfl (by decide) rfl ?_
            refine fn_iinc (c := 1) (lv2 := [(0, .ref 0), (1, .int (nI k)), (2, .int (nI (P + 1))), (3, .int (nI (c + 1)))]) dX11_meeting_58 (by decide) rfl (by decide) rfl ?_
            refine fx_goto (tgt := 9) dX11_meeting_61 (by decide) ?_
            exact (ih9 (c + 1) (P + 1) (bl ++ [c]) (g2 G27 21 P ((nI c))) (g2 L1 22 P 1) (by omega) (by rw [← hbl, hfs, List.append_assoc]; rfl) (by rw [List.length_append, hn]; rfl) (fun q h => by by_cases z : q = P; (rw [z, g2_eq, hn, gdN_e]); rw [g2_ne _ _ (by omega), ho27 21 (by decide), gdN_l _ _ (by omega)]; exact hbx q (by omega)) (fun q h => by by_cases z : q = P; (rw [z, g2_eq]; unfold o1; first | rw [if_pos c46] | rw [if_neg c46]); rw [g2_ne _ _ (by omega)]; exact htm q (by omega)) (mof2_t (mof2_t hoG1 (mof2_1 (t := 14) (by decide) ho27)) (mof2_1 (t := 21) (by decide) (fun i h => g2_row _ _ h))) (fun i h h2 => (g2_rowL h).trans (hoL1 i h h2)))
  exact (L9 u 0 0 ([]) G L (by omega) (by rw [List.nil_append]; exact hgf) rfl (fun q h => absurd h (Nat.not_lt_zero _)) (fun q h => absurd h (Nat.not_lt_zero _)) (mof2_r G) (fun _ _ _ => rfl))
