theorem gal_k : ∀ k, k < 5 → ∀ m, m < 5 → 1 ≤ k → 1 ≤ m → (gal k m 0).length ≤ 70 ∧ 1 ≤ (gal k m 0).length ∧ ∀ x, x ∈ gal k m 0 → x < 10000 ∧ bxl (dgt x k) k 0 m = true := by
  have h : (List.range 5).all (fun k => (List.range 5).all (fun m => decide (k < 1 ∨ m < 1) || (decide ((gal k m 0).length ≤ 70) && decide (1 ≤ (gal k m 0).length) && (gal k m 0).all (fun x => decide (x < 10000) && bxl (dgt x k) k 0 m)))) = true := by decide +kernel
  intro k hk m hm h1 h2
  have q := List.all_eq_true.mp (List.all_eq_true.mp h k (List.mem_range.mpr hk)) m (List.mem_range.mpr hm)
  rw [Bool.or_eq_true, Bool.and_eq_true, Bool.and_eq_true] at q
  rcases q with q | ⟨⟨q1, q2⟩, q3⟩
  · have := of_decide_eq_true q
    omega
  · refine ⟨of_decide_eq_true q1, of_decide_eq_true q2, fun x hx => ?_⟩
    have w := List.all_eq_true.mp q3 x hx
    rw [Bool.and_eq_true] at w
    exact ⟨of_decide_eq_true w.1, w.2⟩
theorem gal_j {k m : Nat} (hk : k ≤ 4) (hm : m ≤ 4) (h1 : 1 ≤ k) (h2 : 1 ≤ m) : ∀ j, j < (gal k m 0).length → (gal k m 0).getD j 0 < 10000 ∧ bxv (dgt ((gal k m 0).getD j 0) k) k m := by
  intro j hj
  have q := (gal_k k (by omega) m (by omega) h1 h2).2.2 ((gal k m 0).getD j 0) (by rw [List.getD_eq_getElem?_getD, List.getElem?_eq_getElem hj]; exact List.getElem_mem hj)
  refine ⟨q.1, fun p hp => ?_⟩
  exact bxl_v _ _ _ _ q.2 p (Nat.zero_le _) (by omega)
def o1 (j : Nat) : Int64 := if j = 0 then 1 else 0
def mtF (k : Nat) (al : List Nat) : List Nat → (Nat → Int64) → Nat → Int64
  | [], o => o
  | b :: r, o => mtF k al r (ptO k al b o)
def xMet (k m : Nat) (bs : List Nat) : Int64 := mtF k (gal k m 0) bs o1 ((gal k m 0).length - 1)
theorem mtF_s {k : Nat} {al bs : List Nat} {j : Nat} (h : j < bs.length) (o : Nat → Int64) : mtF k al (bs.drop j) o = mtF k al (bs.drop (j + 1)) (ptO k al (bs.getD j 0) o) := by
  rw [List.drop_eq_getElem_cons h, List.getD_eq_getElem?_getD, List.getElem?_eq_getElem h]
  rfl
theorem lsp_o {G G2 : Nat → Nat → Int32} {k m : Nat} {bs : List Nat} (h : lsp G k m bs) (h1 : G2 15 = G 15) (h2 : G2 27 = G 27) : lsp G2 k m bs := by
  unfold lsp
  rw [h1, h2]
  exact h
/-- an answer of the list's: the number -/
def qto2 (G : Nat → Nat → Int32) (L : Nat → Nat → Int64) (v : Int64) : Option Value → fv_F → Option Nat → Prop := fun r2 f2 al2 => ∃ (G2 : Nat → Nat → Int32) (L2 : Nat → Nat → Int64), r2 = some (.long v) ∧ f2 = fw cT G2 L2 ∧ al2 = none ∧ (∀ i, (i < 17 ∨ 26 < i) → i ≠ 28 → G2 i = G i) ∧ ∀ i, i ≠ 29 → i ≠ 30 → L2 i = L i

set_option maxRecDepth 4000 in
set_option maxHeartbeats 1000000 in
theorem C2_total  (G : Nat → Nat → Int32) (L : Nat → Nat → Int64) (k m : Nat) (bs : List Nat) (hl : lsp G k m bs) (hk1 : 1 ≤ k) (hk : k ≤ 4) (hm1 : 1 ≤ m) (hm : m ≤ 4) (hbs : ∀ j, j < bs.length → bs.getD j 0 < 10000 ∧ bxv (dgt (bs.getD j 0) k) k m)  : fv_M Y2_total 28 0 0 [.ref 15] (fw cT G L) none (qto2 G L (xMet k m bs)) := by
  refine fv_enter rfl (Nat.le_of_ble_eq_true rfl) ?_
  obtain ⟨Q, hQ⟩ : ∃ Q : Option Value → fv_F → Option Nat → Prop, Q = (qto2 G L (xMet k m bs)) := ⟨_, rfl⟩
  rw [← hQ]
  show fv_At Y2_total 28 0 0 Q 0 [(0, .ref 15)] [] (fw cT G L) none 0 0
  have hgk := gal_k k (by omega) m (by omega) hk1 hm1
  have hg1 := hgk.1
  have hg2 := hgk.2.1
  have h16 := hl.2.2.2.1
  refine fx_aload_n dX2_total_0 rfl (i := 0) rfl ?_
  refine fw_getr dX2_total_1 fd2_22 rfl rfl ?_
  refine fx_iconst (v := (nI 0)) dX2_total_4 (by decide) ?_
  refine fx_aload_n dX2_total_5 rfl (i := 0) rfl ?_
  refine fw_geti dX2_total_6 fd2_32 rfl rfl ?_
  refine fn_to (show _ = (nI k) from hl.1) ?_
  refine fx_aload_n dX2_total_9 rfl (i := 0) rfl ?_
  refine fw_geti dX2_total_10 fd2_36 rfl rfl ?_
  refine fn_to (show _ = (nI m) from hl.2.1) ?_
  refine fx_iconst (v := (nI 0)) dX2_total_13 (by decide) ?_
  refine fn_cSN dX2_total_14 lk2_42 (C1_gather cT 28 70 rfl (by decide) k m 0 0 G L (by omega) (by omega) (by omega) (by decide)) rfl rfl (by omega) (Nat.le_of_ble_eq_true rfl) ?_
  show fv_At Y2_total 28 0 0 Q 17 [(0, .ref 15)] [.int (nI (0 + (gal k m 0).length))] (fw cT (wrl G 28 0 (gal k m 0)) L) none 0 0
  obtain ⟨al, hal0⟩ : ∃ z, z = gal k m 0 := ⟨_, rfl⟩
  rw [← hal0]
  rw [← hal0] at hg1 hg2
  have hav := gal_j hk hm hk1 hm1
  rw [← hal0] at hav
  have hal : al.length ≤ 70 := hg1
  obtain ⟨G1, hG1⟩ : ∃ z, z = wrl G 28 0 al := ⟨_, rfl⟩
  rw [← hG1]
  have hA1 : ∀ j, j < al.length → G1 28 j = nI (al.getD j 0) := fun j hj => by rw [hG1]; exact if_pos ⟨rfl, Nat.zero_le _, by omega⟩
  have hO1 : ∀ i, i ≠ 28 → G1 i = G i := fun i hi => by rw [hG1]; funext j; exact if_neg (fun q => hi q.1)
  show fv_At Y2_total 28 0 0 Q 17 [(0, .ref 15)] [.int (nI (0 + al.length))] (fw cT G1 L) none 0 0
  refine fx_bipush (v := (nI 70)) dX2_total_17 (by decide) ?_
  refine fx_mmin dX2_total_19 lk2_48 (by omega) (by omega) (by decide) (Nat.le_of_ble_eq_true rfl) ?_
  refine fn_to (show _ = (nI al.length) from (congrArg nI (by omega))) ?_
  refine fx_istore_n (lv2 := [(0, .ref 15), (1, .int (nI al.length))]) dX2_total_22 (i := 1) rfl (by decide) rfl ?_
  refine fx_iconst (v := (nI 0)) dX2_total_23 (by decide) ?_
  refine fx_istore_n (lv2 := [(0, .ref 15), (1, .int (nI al.length)), (2, .int (nI 0))]) dX2_total_24 (i := 2) rfl (by decide) rfl ?_
  have L25 : ∀ (k1 : Nat) (c : Nat) (L1 : Nat → Nat → Int64), (c + k1 = al.length) → (∀ i, i ≠ 29 → L1 i = L i) → (∀ j, j < c → L1 29 j = o1 j) → fv_At Y2_total 28 0 0 Q 25 [(0, .ref 15), (1, .int (nI al.length)), (2, .int (nI c))] [] (fw cT G1 L1) none 0 0 := by
    intro k1
    induction k1 with
    | zero =>
      intro c L1 hc hoL hN
      refine fx_iload_n dX2_total_25 rfl (i := 2) rfl ?_
      refine fx_iload_n dX2_total_26 rfl (i := 1) rfl ?_
      refine fn_icmp_ge (tgt := 51) dX2_total_27 (by decide) (by omega) (by omega) (fun c27 => ?_) (fun c27 => ?_)
      · skip
        refine fx_iconst (v := (nI 0)) dX2_total_51 (by decide) ?_
        refine fx_istore_n (lv2 := [(0, .ref 15), (1, .int (nI al.length)), (2, .int (nI 0))]) dX2_total_52 (i := 2) rfl (by decide) rfl ?_
        have L53 : ∀ (k2 : Nat) (j : Nat) (o : Nat → Int64) (G2 : Nat → Nat → Int32) (L2 : Nat → Nat → Int64), (j + k2 = bs.length) → (off2 G1 G2) → (∀ i, i ≠ 29 → i ≠ 30 → L2 i = L i) → (∀ q, q < al.length → L2 29 q = o q) → (mtF k al (bs.drop j) o = mtF k al bs o1) → fv_At Y2_total 28 0 0 Q 53 [(0, .ref 15), (1, .int (nI al.length)), (2, .int (nI j))] [] (fw cT G2 L2) none 0 0 := by
          intro k2
          induction k2 with
          | zero =>
            intro j o G2 L2 hj hoG2 hoL2 hO hR
            refine fx_iload_n dX2_total_53 rfl (i := 2) rfl ?_
            refine fx_aload_n dX2_total_54 rfl (i := 0) rfl ?_
            refine fw_geti dX2_total_55 fd2_39 rfl rfl ?_
            refine fn_to (show _ = (nI bs.length) from (by rw [hoG2 15 (by decide), hO1 15 (by decide)]; exact hl.2.2.1)) ?_
            refine fn_icmp_ge (tgt := 78) dX2_total_58 (by decide) (by omega) (by omega) (fun c58 => ?_) (fun c58 => ?_)
            · skip
              have hoN : o = mtF k al bs o1 := by rw [← hR, List.drop_eq_nil_of_le (by omega)]; rfl
              have hxm : xMet k m bs = o (al.length - 1) := by rw [hoN]; unfold xMet; rw [← hal0]
              refine fx_iload_n dX2_total_78 rfl (i := 1) rfl ?_
              refine fn_if_le (tgt := 93) dX2_total_79 (by decide) (by omega) (fun c79 => ?_) (fun c79 => ?_)
              · exfalso; omega
              · skip
                refine fx_aload_n dX2_total_82 rfl (i := 0) rfl ?_
                refine fw_getr dX2_total_83 fd2_25 rfl rfl ?_
                refine fx_iload_n dX2_total_86 rfl (i := 1) rfl ?_
                refine fx_iconst (v := (nI 1)) dX2_total_87 (by decide) ?_
                refine fn_isub dX2_total_88 (by omega) ?_
                refine fw_lald (al.length - 1) dX2_total_89 rfl rfl (by omega) (by decide) ?_
                refine fn_toL (show _ = (o (al.length - 1)) from (hO _ (by omega))) ?_
                refine fx_goto (tgt := 94) dX2_total_90 (by decide) ?_
                exact fx_lret dX2_total_94 rfl rfl rfl (by rw [hQ]; exact (by rw [hxm]; exact ⟨G2, L2, rfl, rfl, rfl, fun i h h2 => (hoG2 i h).trans (hO1 i h2), hoL2⟩))
            · exfalso; omega
          | succ k2 ih53 =>
            intro j o G2 L2 hj hoG2 hoL2 hO hR
            refine fx_iload_n dX2_total_53 rfl (i := 2) rfl ?_
            refine fx_aload_n dX2_total_54 rfl (i := 0) rfl ?_
            refine fw_geti dX2_total_55 fd2_39 rfl rfl ?_
            refine fn_to (show _ = (nI bs.length) from (by rw [hoG2 15 (by decide), hO1 15 (by decide)]; exact hl.2.2.1)) ?_
            refine fn_icmp_ge (tgt := 78) dX2_total_58 (by decide) (by omega) (by omega) (fun c58 => ?_) (fun c58 => ?_)
            · exfalso; omega
            · skip
              refine fx_aload_n dX2_total_61 rfl (i := 0) rfl ?_
              refine fx_aload_n dX2_total_62 rfl (i := 0) rfl ?_
              refine fw_getr dX2_total_63 fd2_18 rfl rfl ?_
              refine fx_iload_n dX2_total_66 rfl (i := 2) rfl ?_
              refine fw_iald j dX2_total_67 rfl rfl (by omega) (by decide) ?_
              refine fn_to (show _ = (nI (bs.getD j 0)) from (by rw [hoG2 27 (by decide), hO1 27 (by decide)]; exact hl.2.2.2.2 j (by omega))) ?_
              refine fx_iload_n dX2_total_68 rfl (i := 1) rfl ?_
              refine fx_callV dX2_total_69 lk2_54 fv_c1 rfl (fw_at (show cT 15 = some (3, 1, 8, [some 16, some 27, some 28, some 29, some 30, none, none, none]) from rfl)) (C2_putOn G2 L2 k m bs (lsp_o hl (by rw [hoG2 15 (by decide), hO1 15 (by decide)]) (by rw [hoG2 27 (by decide), hO1 27 (by decide)])) hk1 hk hm al hal (fun j hj => by rw [hoG2 28 (by decide)]; exact hA1 j hj) hav al.length rfl (bs.getD j 0) (hbs j (by omega)).1 (hbs j (by omega)).2 o hO) rfl rfl (by decide) (Nat.le_of_ble_eq_true rfl) (by decide) (by decide) (fun r69 f69 al69 h69 => ?_)
              obtain ⟨G69, L69, rfl, rfl, rfl, hf69, hl69, hd69⟩ := h69
              show fv_At Y2_total 28 0 0 Q 72 [(0, .ref 15), (1, .int (nI al.length)), (2, .int (nI j))] [] (fw cT G69 L69) none 0 0
              refine fn_iinc (c := 1) (lv2 := [(0, .ref 15), (1, .int (nI al.length)), (2, .int (nI (j + 1)))]) dX2_total_72 (by decide) rfl (by decide) rfl ?_
              refine fx_goto (tgt := 53) dX2_total_75 (by decide) ?_
              exact (ih53 (j + 1) (ptO k al (bs.getD j 0) o) G69 L69 (by omega) (fun i h => (hf69 i h).trans (hoG2 i h)) (fun i h h2 => (hl69 i h h2).trans (hoL2 i h h2)) hd69 (by rw [← hR, mtF_s (show j < bs.length by omega)]))
        exact (L53 bs.length 0 o1 G1 L1 (by omega) (fun _ _ => rfl) (fun i h _ => hoL i h) (fun q h => hN q (by omega)) rfl)
      · exfalso; omega
    | succ k1 ih25 =>
      intro c L1 hc hoL hN
      refine fx_iload_n dX2_total_25 rfl (i := 2) rfl ?_
      refine fx_iload_n dX2_total_26 rfl (i := 1) rfl ?_
      refine fn_icmp_ge (tgt := 51) dX2_total_27 (by decide) (by omega) (by omega) (fun c27 => ?_) (fun c27 => ?_)
      · exfalso; omega
      · skip
        refine fx_aload_n dX2_total_30 rfl (i := 0) rfl ?_
        refine fw_getr dX2_total_31 fd2_25 rfl rfl ?_
        refine fx_iload_n dX2_total_34 rfl (i := 2) rfl ?_
        refine fx_iload_n dX2_total_35 rfl (i := 2) rfl ?_
        refine fn_if_ne (tgt := 43) dX2_total_36 (by decide) (by omega) (fun c36 => ?_) (fun c36 => ?_)
        · skip
          refine fx_lconst (v := 0) dX2_total_43 (by decide) ?_
          refine fw_last c dX2_total_44 rfl rfl (by omega) (by decide) ?_
          refine fn_iinc (c := 1) (lv2 := [(0, .ref 15), (1, .int (nI al.length)), (2, .int (nI (c + 1)))]) dX2_total_45 (by decide) rfl (by decide) rfl ?_
          refine fx_goto (tgt := 25) dX2_total_48 (by decide) ?_
          exact (ih25 (c + 1) (g2 L1 29 c 0) (by omega) (fun i h => (g2_rowL h).trans (hoL i h)) (fun j h => by by_cases z : j = c; (rw [z, g2_eq]; unfold o1; first | rw [if_pos c36] | rw [if_neg c36]); exact (g2_ne _ _ (by omega)).trans (hN j (by omega))))
        · skip
          refine fx_lconst (v := 1) dX2_total_39 (by decide) ?_
          refine fx_goto (tgt := 44) dX2_total_40 (by decide) ?_
          refine fw_last c dX2_total_44 rfl rfl (by omega) (by decide) ?_
          refine fn_iinc (c := 1) (lv2 := [(0, .ref 15), (1, .int (nI al.length)), (2, .int (nI (c + 1)))]) dX2_total_45 (by decide) rfl (by decide) rfl ?_
          refine fx_goto (tgt := 25) dX2_total_48 (by decide) ?_
          exact (ih25 (c + 1) (g2 L1 29 c 1) (by omega) (fun i h => (g2_rowL h).trans (hoL i h)) (fun j h => by by_cases z : j = c; (rw [z, g2_eq]; unfold o1; first | rw [if_pos c36] | rw [if_neg c36]); exact (g2_ne _ _ (by omega)).trans (hN j (by omega))))
  exact (L25 al.length 0 L (by omega) (fun _ _ => rfl) (fun j h => absurd h (Nat.not_lt_zero _)))

set_option maxRecDepth 4000 in
set_option maxHeartbeats 1000000 in
theorem C10_meeting  (G : Nat → Nat → Int32) (L : Nat → Nat → Int64) (k m : Nat) (bs : List Nat) (hl : lsp G k m bs) (hk1 : 1 ≤ k) (hk : k ≤ 4) (hm1 : 1 ≤ m) (hm : m ≤ 4) (hbs : ∀ j, j < bs.length → bs.getD j 0 < 10000 ∧ bxv (dgt (bs.getD j 0) k) k m)  : fv_M Y10_meeting 29 0 0 [.ref 0] (fw cT G L) none (qto2 G L (xMet k m bs)) := by
  refine fv_enter rfl (Nat.le_of_ble_eq_true rfl) ?_
  obtain ⟨Q, hQ⟩ : ∃ Q : Option Value → fv_F → Option Nat → Prop, Q = (qto2 G L (xMet k m bs)) := ⟨_, rfl⟩
  rw [← hQ]
  show fv_At Y10_meeting 29 0 0 Q 0 [(0, .ref 0)] [] (fw cT G L) none 0 0
  refine fx_aload_n dX10_meeting_0 rfl (i := 0) rfl ?_
  refine fw_getr dX10_meeting_1 fd10_25 rfl rfl ?_
  refine fx_callV dX10_meeting_4 lk10_170 fv_c1 rfl (fw_at (show cT 15 = some (3, 1, 8, [some 16, some 27, some 28, some 29, some 30, none, none, none]) from rfl)) (C2_total G L k m bs hl hk1 hk hm1 hm hbs) rfl rfl (by decide) (Nat.le_of_ble_eq_true rfl) (by decide) (by decide) (fun r4 f4 al4 h4 => ?_)
  obtain ⟨G4, L4, rfl, rfl, rfl, hg4, hl4⟩ := h4
  show fv_At Y10_meeting 29 0 0 Q 7 [(0, .ref 0)] [.long (xMet k m bs)] (fw cT G4 L4) none 0 0
  exact fx_lret dX10_meeting_7 rfl rfl rfl (by rw [hQ]; exact ⟨G4, L4, rfl, rfl, rfl, hg4, hl4⟩)
