/-- the terms at codes from c down, k of them -/
def dwn (S : Nat → Int64) : Nat → Nat → List (Nat × Int64)
  | 0, _ => []
  | k + 1, c => if S c ≠ 0 then (c, S c) :: dwn S k (c - 1) else dwn S k (c - 1)
/-- these come to the draft, as far as it has room -/
def fdT : List (Nat × Int64) → tms → tms
  | [], ds => ds
  | q :: r, ds => fdT r (if ds.length < 600 then ds ++ [(q.1, q.2.toInt32)] else ds)
def anB (l : List (Nat × Int64)) : Bool := l.any (fun q => byd q.2)
theorem dwn_len (S : Nat → Int64) : ∀ k c, (dwn S k c).length ≤ k
  | 0, _ => Nat.le_refl _
  | k + 1, c => by
    have := dwn_len S k (c - 1)
    unfold dwn
    split
    · rw [List.length_cons]; omega
    · omega
theorem dwn_app (S : Nat → Int64) : ∀ a b c, dwn S (a + b) c = dwn S a c ++ dwn S b (c - a)
  | 0, b, c => by rw [Nat.zero_add]; rfl
  | a + 1, b, c => by
    rw [show a + 1 + b = (a + b) + 1 by omega]
    have h := dwn_app S a b (c - 1)
    rw [show c - 1 - a = c - (a + 1) by omega] at h
    have e1 : dwn S ((a + b) + 1) c = if S c ≠ 0 then (c, S c) :: dwn S (a + b) (c - 1) else dwn S (a + b) (c - 1) := rfl
    have e2 : dwn S (a + 1) c = if S c ≠ 0 then (c, S c) :: dwn S a (c - 1) else dwn S a (c - 1) := rfl
    rw [e1, e2, h]
    split <;> rfl
theorem dwn_cong {S S2 : Nat → Int64} : ∀ k c, (∀ j, j ≤ c → c < j + k → S j = S2 j) → k ≤ c + 1 → dwn S k c = dwn S2 k c
  | 0, _, _, _ => rfl
  | k + 1, c, h, hk => by
    have h1 := h c (Nat.le_refl _) (by omega)
    by_cases hk0 : k = 0
    · subst hk0
      unfold dwn
      rw [h1]
      rfl
    · have h2 := dwn_cong (S := S) (S2 := S2) k (c - 1) (fun j hj hj2 => h j (by omega) (by omega)) (by omega)
      unfold dwn
      rw [h1, h2]
theorem dwn_none {S : Nat → Int64} : ∀ k c, (∀ j, j ≤ c → c < j + k → S j = 0) → k ≤ c + 1 → dwn S k c = []
  | 0, _, _, _ => rfl
  | k + 1, c, h, hk => by
    have h1 := h c (Nat.le_refl _) (by omega)
    by_cases hk0 : k = 0
    · subst hk0
      unfold dwn
      rw [if_neg (fun q => q h1)]
      rfl
    · have h2 := dwn_none (S := S) k (c - 1) (fun j hj hj2 => h j (by omega) (by omega)) (by omega)
      unfold dwn
      rw [if_neg (fun q => q h1), h2]
theorem fdT_app : ∀ (a b : List (Nat × Int64)) (ds : tms), fdT (a ++ b) ds = fdT b (fdT a ds)
  | [], _, _ => rfl
  | _ :: r, b, _ => fdT_app r b _
theorem anB_app (a b : List (Nat × Int64)) : anB (a ++ b) = (anB a || anB b) := List.any_append
theorem bI_or (a b : Bool) : bI a ||| bI b = bI (a || b) := by cases a <;> cases b <;> decide
theorem pL_self {G : Nat → Nat → Int32} {p : Nat} {ts : tms} {t : Bool} (h : pat G p ts t) : pL G p ts t = G := by
  funext i j
  unfold pL
  by_cases a : i = p ∧ j = 2
  · rw [if_pos a, a.1, a.2]; exact h.2.1.symm
  · rw [if_neg a]
    by_cases b : i = p ∧ j = 3
    · rw [if_pos b, b.1, b.2]; exact h.2.2.1.symm
    · rw [if_neg b]
      by_cases c : i = p + 1 ∧ j < ts.length
      · rw [if_pos c, c.1]; exact (h.2.2.2 j c.2).1.symm
      · rw [if_neg c]
        by_cases d : i = p + 2 ∧ j < ts.length
        · rw [if_pos d, d.1]; exact (h.2.2.2 j d.2).2.1.symm
        · rw [if_neg d]
def apd (G : Nat → Nat → Int32) (p n c : Nat) (x : Int32) : Nat → Nat → Int32 := if n < 600 then g2 (g2 (g2 G (p + 1) n (nI c)) (p + 2) n x) p 2 (nI (n + 1)) else G
theorem apd_row {G : Nat → Nat → Int32} {p n c i : Nat} {x : Int32} (h : i ≠ p) (h1 : i ≠ p + 1) (h2 : i ≠ p + 2) : apd G p n c x i = G i := by
  unfold apd
  split
  · rw [g2_row _ _ h, g2_row _ _ h2, g2_row _ _ h1]
  · rfl
theorem apd_pat {G : Nat → Nat → Int32} {p c : Nat} {x : Int32} {ts : tms} {t : Bool} (h : pat G p ts t) (hc : c < 100000) : pat (apd G p ts.length c x) p (if ts.length < 600 then ts ++ [(c, x)] else ts) t := by
  unfold apd
  split
  · have e := pL_app G p ts t c x
    rw [pL_self h] at e
    rw [e]
    refine pat_pL (by rw [List.length_append]; simp; omega) (fun j hj => ?_)
    rw [List.length_append] at hj
    simp at hj
    by_cases q : j < ts.length
    · rw [txA_l _ _ q]; exact (h.2.2.2 j q).2.2
    · rw [show j = ts.length by omega, txA_e]; exact hc
  · exact h
theorem C7_appendX (T : fw_T) (p : Nat) (hp : T p = some (3, 4, 4, [some (p + 1), some (p + 2), none, none])) (hp1 : T (p + 1) = some (0, 0, 600, [])) (hp2 : T (p + 2) = some (0, 0, 600, [])) (G : Nat → Nat → Int32) (L : Nat → Nat → Int64) (n c : Nat) (x : Int32) (hn : G p 2 = nI n) (hn6 : n ≤ 600) : fv_M Y7_append 0 0 0 [.ref p, .int (nI c), .int x] (fw T G L) none (fv_eq none (fw T (apd G p n c x) L)) := by
  have h := C7_append T p hp hp1 hp2 G L n c x hn hn6
  unfold apd
  split
  · rename_i q; rw [if_pos q] at h; exact h
  · rename_i q; rw [if_neg q] at h; exact h
/-- an answer of takeOut: what came to the draft, what is left -/
def qto (G : Nat → Nat → Int32) (L : Nat → Nat → Int64) (S : Nat → Int64) (ds : tms) (n : Nat) (g : Bool) (b fs hi : Nat) : Option Value → fv_F → Option Nat → Prop := fun r2 f2 al2 => ∃ (G2 : Nat → Nat → Int32) (S2 : Nat → Int64), r2 = none ∧ f2 = fw cT G2 (rwL L S2) ∧ al2 = none ∧
  G2 3 3 = nI (n + (dwn S (hi + 1 - fs) hi).length) ∧ G2 3 4 = bI (g || anB (dwn S (hi + 1 - fs) hi)) ∧ pat G2 6 (fdT (dwn S (hi + 1 - fs) hi) ds) true ∧ G2 5 = upU (G 5) b (bI false) ∧ (∀ i, i ≠ 3 → i ≠ 5 → i ≠ 6 → i ≠ 7 → i ≠ 8 → G2 i = G i) ∧ ∀ j, S2 j = if fs ≤ j ∧ j ≤ hi then 0 else S j

set_option maxRecDepth 4000 in
set_option maxHeartbeats 1000000 in
theorem C8_takeOut (G : Nat → Nat → Int32) (L : Nat → Nat → Int64) (S : Nat → Int64) (b : Nat) (hb : b < 889) (n : Nat) (g : Bool) (ds : tms) (hn : G 3 3 = nI n) (hg : G 3 4 = bI g) (hD : pat G 6 ds true) : fv_M Y8_takeOut 1 0 0 [.ref 3, .int (nI b)] (fw cT G (rwL L S)) none (qto G L S ds n g b (b * 100) (min (b * 100 + 100 - 1) 88888)) := by
  refine fv_enter rfl (Nat.le_of_ble_eq_true rfl) ?_
  obtain ⟨Q, hQ⟩ : ∃ Q : Option Value → fv_F → Option Nat → Prop, Q = (qto G L S ds n g b (b * 100) (min (b * 100 + 100 - 1) 88888)) := ⟨_, rfl⟩
  rw [← hQ]
  show fv_At Y8_takeOut 1 0 0 Q 0 [(0, .ref 3), (1, .int (nI b))] [] (fw cT G (rwL L S)) none 0 0
  refine fx_iload_n dX8_takeOut_0 rfl (i := 1) rfl ?_
  refine fx_bipush (v := (nI 100)) dX8_takeOut_1 (by decide) ?_
  refine fn_imul dX8_takeOut_3 ?_
  refine fx_istore_n (lv2 := [(0, .ref 3), (1, .int (nI b)), (2, .int (nI (b * 100)))]) dX8_takeOut_4 (i := 2) rfl (by decide) rfl ?_
  obtain ⟨fs, hfs⟩ : ∃ z, z = b * 100 := ⟨_, rfl⟩
  obtain ⟨hi, hhi⟩ : ∃ z, z = min (fs + 100 - 1) 88888 := ⟨_, rfl⟩
  rw [← hfs] at hQ ⊢
  rw [← hhi] at hQ
  show fv_At Y8_takeOut 1 0 0 Q 5 [(0, .ref 3), (1, .int (nI b)), (2, .int (nI fs))] [] (fw cT G (rwL L S)) none 0 0
  refine fx_iload_n dX8_takeOut_5 rfl (i := 2) rfl ?_
  refine fx_bipush (v := (nI 100)) dX8_takeOut_6 (by decide) ?_
  refine fn_iadd dX8_takeOut_8 ?_
  refine fx_iconst (v := (nI 1)) dX8_takeOut_9 (by decide) ?_
  refine fn_isub dX8_takeOut_10 (by omega) ?_
  refine fx_ldc dX8_takeOut_11 kc8_35 (fn_to (show _ = (nI 88888) by decide) ?_)
  refine fx_mmin dX8_takeOut_13 lk8_62 (by omega) (by omega) (by decide) (Nat.le_of_ble_eq_true rfl) ?_
  refine fn_to (show _ = (nI hi) from (by rw [hhi])) ?_
  refine fx_istore_n (lv2 := [(0, .ref 3), (1, .int (nI b)), (2, .int (nI fs)), (3, .int (nI hi))]) dX8_takeOut_16 (i := 3) rfl (by decide) rfl ?_
  have L17 : ∀ (k : Nat) (x : Int) (G1 : Nat → Nat → Int32) (S1 : Nat → Int64) (n1 : Nat) (g1 : Bool) (d1 : tms), (x = (fs : Int) + k - 1) → (fs + k ≤ hi + 1) → (G1 3 3 = nI n1) → (G1 3 4 = bI g1) → (pat G1 6 d1 true) → (∀ i, i ≠ 3 → i ≠ 6 → i ≠ 7 → i ≠ 8 → G1 i = G i) → (∀ j, S1 j = if fs + k ≤ j ∧ j ≤ hi then 0 else S j) → (fdT (dwn S k (fs + k - 1)) d1 = fdT (dwn S (hi + 1 - fs) hi) ds) → (n1 + (dwn S k (fs + k - 1)).length = n + (dwn S (hi + 1 - fs) hi).length) → ((g1 || anB (dwn S k (fs + k - 1))) = (g || anB (dwn S (hi + 1 - fs) hi))) → fv_At Y8_takeOut 1 0 0 Q 17 [(0, .ref 3), (1, .int (nI b)), (2, .int (nI fs)), (3, .int (iI x))] [] (fw cT G1 (rwL L S1)) none 0 0 := by
    intro k
    induction k with
    | zero =>
      intro x G1 S1 n1 g1 d1 hx hkk hn1 hg1 hD1 hoff hS1 hF hN hB
      refine fx_iload_n dX8_takeOut_17 rfl (i := 3) rfl ?_
      refine fx_iload_n dX8_takeOut_18 rfl (i := 2) rfl ?_
      refine fn_icmp_ltZ (a := x) (b := ((fs : Nat) : Int)) (tgt := 89) dX8_takeOut_19 (by decide) (by omega) (by omega) (by omega) (by omega) (fun c19 => ?_) (fun c19 => ?_)
      · skip
        refine fx_aload_n dX8_takeOut_89 rfl (i := 0) rfl ?_
        refine fw_getr dX8_takeOut_90 fd8_16 rfl rfl ?_
        refine fx_iload_n dX8_takeOut_93 rfl (i := 1) rfl ?_
        refine fx_iconst (v := (nI 0)) dX8_takeOut_94 (by decide) ?_
        refine fn_to (show _ = (bI false) from rfl) ?_
        refine fw_zast b dX8_takeOut_95 (bI_01 _) rfl rfl (by omega) (by decide) ?_
        exact fx_vret dX8_takeOut_96 rfl rfl rfl (by rw [hQ]; exact ⟨g2 G1 5 b (bI false), S1, rfl, rfl, rfl, by rw [g2_row _ _ (by decide), hn1, ← hN]; rfl, by rw [g2_row _ _ (by decide), hg1, ← hB]; exact congrArg bI (Bool.or_false _).symm, by rw [← hF]; exact pat_row hD1 (g2_row _ _ (by decide)) (g2_row _ _ (by decide)) (g2_row _ _ (by decide)), by funext j; unfold g2 upU; rw [hoff 5 (by decide) (by decide) (by decide) (by decide)]; by_cases e : j = b; (rw [if_pos ⟨rfl, e⟩, if_pos e]); (rw [if_neg (fun h => e h.2), if_neg e]), fun i a1 a2 a3 a4 a5 => by rw [g2_row _ _ a2]; exact hoff i a1 a3 a4 a5, fun j => by rw [hS1]; rfl⟩)
      · exfalso; omega
    | succ k ih17 =>
      intro x G1 S1 n1 g1 d1 hx hkk hn1 hg1 hD1 hoff hS1 hF hN hB
      refine fx_iload_n dX8_takeOut_17 rfl (i := 3) rfl ?_
      refine fx_iload_n dX8_takeOut_18 rfl (i := 2) rfl ?_
      refine fn_icmp_ltZ (a := x) (b := ((fs : Nat) : Int)) (tgt := 89) dX8_takeOut_19 (by decide) (by omega) (by omega) (by omega) (by omega) (fun c19 => ?_) (fun c19 => ?_)
      · exfalso; omega
      · skip
        obtain ⟨c, rfl⟩ : ∃ c : Nat, x = (c : Int) := ⟨x.toNat, by omega⟩
        have hc : c = fs + k := by omega
        have hSc : S1 c = S c := by rw [hS1]; exact if_neg (by omega)
        have edw : dwn S (k + 1) (fs + (k + 1) - 1) = if S c ≠ 0 then (c, S c) :: dwn S k (fs + k - 1) else dwn S k (fs + k - 1) := by rw [show fs + (k + 1) - 1 = c by omega, show fs + k - 1 = c - 1 by omega]; rfl
        rw [edw] at hF hN hB
        show fv_At Y8_takeOut 1 0 0 Q 22 [(0, .ref 3), (1, .int (nI b)), (2, .int (nI fs)), (3, .int (nI c))] [] (fw cT G1 (rwL L S1)) none 0 0
        refine fx_aload_n dX8_takeOut_22 rfl (i := 0) rfl ?_
        refine fw_getr dX8_takeOut_23 fd8_10 rfl rfl ?_
        refine fx_iload_n dX8_takeOut_26 rfl (i := 3) rfl ?_
        refine fw_lald c dX8_takeOut_27 rfl rfl (by omega) (by decide) ?_
        refine fn_toL (show _ = (S c) from hSc) ?_
        refine fx_lconst (v := 0) dX8_takeOut_28 (by decide) ?_
        refine fx_lcmp dX8_takeOut_29 ?_
        refine fn_if_eqC (tgt := 83) dX8_takeOut_30 (by decide) (fun c30 => ?_) (fun c30 => ?_)
        · skip
          rw [if_neg (fun q => q c30)] at hF hN hB
          have f5 : ∀ j, S1 j = if fs + k ≤ j ∧ j ≤ hi then 0 else S j := fun j => by
            by_cases e : j = c
            · rw [e, hSc, c30, if_pos (by omega)]
            · rw [hS1]; split <;> split <;> first | rfl | (exfalso; omega)
          show fv_At Y8_takeOut 1 0 0 Q 83 [(0, .ref 3), (1, .int (nI b)), (2, .int (nI fs)), (3, .int (iI ((c : Int))))] [] (fw cT G1 (rwL L S1)) none 0 0
          refine fn_iincZ (lv2 := [(0, .ref 3), (1, .int (nI b)), (2, .int (nI fs)), (3, .int (iI ((c : Int) + (-1))))]) dX8_takeOut_83  rfl (by decide) rfl ?_
          refine fx_goto (tgt := 17) dX8_takeOut_86 (by decide) ?_
          exact (ih17 ((c : Int) + (-1)) G1 S1 n1 g1 d1 (by omega) (by omega) hn1 hg1 hD1 hoff f5 hF hN hB)
        · skip
          refine fx_aload_n dX8_takeOut_33 rfl (i := 0) rfl ?_
          refine fx_dup dX8_takeOut_34 rfl ?_
          refine fw_geti dX8_takeOut_35 fd8_31 rfl rfl ?_
          refine fn_to (show _ = (bI g1) from hg1) ?_
          refine fx_aload_n dX8_takeOut_38 rfl (i := 0) rfl ?_
          refine fw_getr dX8_takeOut_39 fd8_10 rfl rfl ?_
          refine fx_iload_n dX8_takeOut_42 rfl (i := 3) rfl ?_
          refine fw_lald c dX8_takeOut_43 rfl rfl (by omega) (by decide) ?_
          refine fn_toL (show _ = (S c) from hSc) ?_
          refine fn_cSN dX8_takeOut_44 lk8_68 (C10_isBeyond ((S c)) (f := (fw cT G1 (rwL L S1)))) rfl rfl (by decide) (Nat.le_of_ble_eq_true rfl) ?_
          show fv_At Y8_takeOut 1 0 0 Q 47 [(0, .ref 3), (1, .int (nI b)), (2, .int (nI fs)), (3, .int (nI c))] [.int (bI (byd ((S c)))), .int (bI g1), .ref 3] (fw cT G1 (rwL L S1)) none 0 0
          refine fx_ior dX8_takeOut_47 ?_
          refine fn_to (show _ = (bI (g1 || byd (S c))) from (bI_or _ _)) ?_
          refine fw_putz dX8_takeOut_48 fd8_31 (bI_01 _) rfl rfl ?_
          refine fx_aload_n dX8_takeOut_51 rfl (i := 0) rfl ?_
          refine fw_getr dX8_takeOut_52 fd8_23 rfl rfl ?_
          refine fx_iload_n dX8_takeOut_55 rfl (i := 3) rfl ?_
          refine fx_aload_n dX8_takeOut_56 rfl (i := 0) rfl ?_
          refine fw_getr dX8_takeOut_57 fd8_10 rfl rfl ?_
          refine fx_iload_n dX8_takeOut_60 rfl (i := 3) rfl ?_
          refine fw_lald c dX8_takeOut_61 rfl rfl (by omega) (by decide) ?_
          refine fn_toL (show _ = (S c) from hSc) ?_
          refine fx_l2i dX8_takeOut_62 ?_
          refine fn_cV dX8_takeOut_63 lk8_72 fv_c4 rfl (fw_at (show cT 6 = some (3, 4, 4, [some 7, some 8, none, none]) from rfl)) (C7_appendX cT 6 rfl rfl rfl (g2 G1 3 4 ((bI (g1 || byd (S c))))) (rwL L S1) d1.length c ((((S c)).toInt32)) (by rw [g2_row _ _ (by decide)]; exact hD1.2.1) hD1.1) rfl rfl (by decide) (Nat.le_of_ble_eq_true rfl) ?_
          show fv_At Y8_takeOut 1 0 0 Q 66 [(0, .ref 3), (1, .int (nI b)), (2, .int (nI fs)), (3, .int (nI c))] [] (fw cT (apd (g2 G1 3 4 ((bI (g1 || byd (S c))))) 6 d1.length c ((((S c)).toInt32))) (rwL L S1)) none 0 0
          refine fx_aload_n dX8_takeOut_66 rfl (i := 0) rfl ?_
          refine fx_dup dX8_takeOut_67 rfl ?_
          refine fw_geti dX8_takeOut_68 fd8_27 rfl rfl ?_
          refine fn_to (show _ = (nI n1) from (by rw [apd_row (by decide) (by decide) (by decide), g2_ne _ _ (fun h => absurd h.2 (by decide))]; exact hn1)) ?_
          refine fx_iconst (v := (nI 1)) dX8_takeOut_71 (by decide) ?_
          refine fn_iadd dX8_takeOut_72 ?_
          refine fw_puti dX8_takeOut_73 fd8_27 rfl rfl ?_
          refine fx_aload_n dX8_takeOut_76 rfl (i := 0) rfl ?_
          refine fw_getr dX8_takeOut_77 fd8_10 rfl rfl ?_
          refine fx_iload_n dX8_takeOut_80 rfl (i := 3) rfl ?_
          refine fx_lconst (v := 0) dX8_takeOut_81 (by decide) ?_
          refine fw_last c dX8_takeOut_82 rfl rfl (by omega) (by decide) ?_
          rw [rwL_set]
          obtain ⟨G2, hG2⟩ : ∃ z, z = g2 (apd (g2 G1 3 4 ((bI (g1 || byd (S c))))) 6 d1.length c ((((S c)).toInt32))) 3 3 ((nI (n1 + 1))) := ⟨_, rfl⟩
          rw [← hG2]
          rw [if_pos c30] at hF hN hB
          have f1 : G2 3 3 = nI (n1 + 1) := by rw [hG2]; exact g2_eq _ _ _ _
          have f2 : G2 3 4 = bI (g1 || byd (S c)) := by rw [hG2, g2_ne _ _ (fun h => absurd h.2 (by decide)), apd_row (by decide) (by decide) (by decide)]; exact g2_eq _ _ _ _
          have f3 : pat G2 6 (if d1.length < 600 then d1 ++ [(c, (S c).toInt32)] else d1) true := by rw [hG2]; exact pat_row (apd_pat (pat_row hD1 (g2_row _ _ (by decide)) (g2_row _ _ (by decide)) (g2_row _ _ (by decide))) (by omega)) (g2_row _ _ (by decide)) (g2_row _ _ (by decide)) (g2_row _ _ (by decide))
          have f4 : ∀ i, i ≠ 3 → i ≠ 6 → i ≠ 7 → i ≠ 8 → G2 i = G i := fun i a1 a2 a3 a4 => by rw [hG2, g2_row _ _ a1, apd_row a2 a3 a4, g2_row _ _ a1]; exact hoff i a1 a2 a3 a4
          have f5 : ∀ j, upS S1 c 0 j = if fs + k ≤ j ∧ j ≤ hi then 0 else S j := fun j => by
            unfold upS
            by_cases e : j = c
            · rw [if_pos e, if_pos (by omega)]
            · rw [if_neg e, hS1]; split <;> split <;> first | rfl | (exfalso; omega)
          have f6 : (n1 + 1) + (dwn S k (fs + k - 1)).length = n + (dwn S (hi + 1 - fs) hi).length := by rw [List.length_cons] at hN; omega
          have f7 : ((g1 || byd (S c)) || anB (dwn S k (fs + k - 1))) = (g || anB (dwn S (hi + 1 - fs) hi)) := by rw [Bool.or_assoc]; exact hB
          show fv_At Y8_takeOut 1 0 0 Q 83 [(0, .ref 3), (1, .int (nI b)), (2, .int (nI fs)), (3, .int (iI ((c : Int))))] [] (fw cT G2 (rwL L (upS S1 c 0))) none 0 0
          refine fn_iincZ (lv2 := [(0, .ref 3), (1, .int (nI b)), (2, .int (nI fs)), (3, .int (iI ((c : Int) + (-1))))]) dX8_takeOut_83  rfl (by decide) rfl ?_
          refine fx_goto (tgt := 17) dX8_takeOut_86 (by decide) ?_
          exact (ih17 ((c : Int) + (-1)) G2 (upS S1 c 0) (n1 + 1) (g1 || byd (S c)) (if d1.length < 600 then d1 ++ [(c, (S c).toInt32)] else d1) (by omega) (by omega) f1 f2 f3 f4 f5 hF f6 f7)
  exact (L17 (hi + 1 - fs) ((hi : Int)) G S n g ds (by omega) (by omega) hn hg hD (fun _ _ _ _ _ => rfl) (fun j => by rw [if_neg (by omega)]) (by rw [show fs + (hi + 1 - fs) - 1 = hi by omega]) (by rw [show fs + (hi + 1 - fs) - 1 = hi by omega]) (by rw [show fs + (hi + 1 - fs) - 1 = hi by omega]))

/-- what a pot comes to: how many terms, or a refusal -/
def stl (S : Nat → Int64) : Int := if anB (dwn S 88889 88888) = true then -5 else if 600 < (dwn S 88889 88888).length then -6 else ((dwn S 88889 88888).length : Nat)
/-- its terms -/
def trm (S : Nat → Int64) : tms := (dwn S 88889 88888).map (fun q => (q.1, q.2.toInt32))
theorem fdT_map : ∀ (l : List (Nat × Int64)) (ds : tms), ds.length + l.length ≤ 600 → fdT l ds = ds ++ l.map (fun q => (q.1, q.2.toInt32))
  | [], ds, _ => (List.append_nil ds).symm
  | q :: r, ds, h => by
    rw [List.length_cons] at h
    have h2 := fdT_map r (ds ++ [(q.1, q.2.toInt32)]) (by rw [List.length_append]; simp; omega)
    show fdT r (if ds.length < 600 then ds ++ [(q.1, q.2.toInt32)] else ds) = _
    rw [if_pos (by omega), h2, List.append_assoc]
    rfl
/-- an answer of settle: the pot is empty; the sheet at p has the terms, or all stays -/
def qse (G : Nat → Nat → Int32) (L : Nat → Nat → Int64) (S : Nat → Int64) (p : Nat) : Option Value → fv_F → Option Nat → Prop := fun r2 f2 al2 => ∃ (G2 : Nat → Nat → Int32) (S2 : Nat → Int64), r2 = some (.int (iI (stl S))) ∧ f2 = fw cT G2 (rwL L S2) ∧ al2 = none ∧
  (∀ c, c ≤ 88888 → S2 c = 0) ∧ (∀ b, b < 889 → G2 5 b = bI false) ∧ (∀ i, i ≠ 3 → i ≠ 5 → i ≠ 6 → i ≠ 7 → i ≠ 8 → i ≠ p → i ≠ p + 1 → i ≠ p + 2 → G2 i = G i) ∧ (stl S < 0 → ∀ i, i ≠ 3 → i ≠ 5 → i ≠ 6 → i ≠ 7 → i ≠ 8 → G2 i = G i) ∧ (0 ≤ stl S → pat G2 p (trm S) true)
theorem lay_ne {p : Nat} (hp : cT p = some (3, 4, 4, [some (p + 1), some (p + 2), none, none])) (hp1 : cT (p + 1) = some (0, 0, 600, [])) (hp2 : cT (p + 2) = some (0, 0, 600, [])) : p ≠ 3 ∧ p ≠ 5 ∧ p + 1 ≠ 3 ∧ p + 1 ≠ 5 ∧ p + 2 ≠ 3 ∧ p + 2 ≠ 5 := by
  refine ⟨fun e => ?_, fun e => ?_, fun e => ?_, fun e => ?_, fun e => ?_, fun e => ?_⟩
  · rw [e] at hp; exact absurd hp (by decide +kernel)
  · rw [e] at hp; exact absurd hp (by decide +kernel)
  · rw [e] at hp1; exact absurd hp1 (by decide +kernel)
  · rw [e] at hp1; exact absurd hp1 (by decide +kernel)
  · rw [e] at hp2; exact absurd hp2 (by decide +kernel)
  · rw [e] at hp2; exact absurd hp2 (by decide +kernel)
/-- the codes from the top that the blocks from 0 to k have -/
def mk (k : Nat) : Nat := min (k * 100) 88889
theorem mk_s {S : Nat → Int64} {k : Nat} (h : k < 889) : dwn S (mk (k + 1)) (mk (k + 1) - 1) = dwn S (min (k * 100 + 100 - 1) 88888 + 1 - k * 100) (min (k * 100 + 100 - 1) 88888) ++ dwn S (mk k) (mk k - 1) := by
  have e : mk (k + 1) = (min (k * 100 + 100 - 1) 88888 + 1 - k * 100) + mk k := by unfold mk; omega
  have e2 : mk (k + 1) - 1 = min (k * 100 + 100 - 1) 88888 := by unfold mk; omega
  rw [e2, e, dwn_app]
  congr 2
  unfold mk
  omega

set_option maxRecDepth 4000 in
set_option maxHeartbeats 1000000 in
theorem C8_settle (G : Nat → Nat → Int32) (L : Nat → Nat → Int64) (S : Nat → Int64) (hok : pok (G 5) S) (p : Nat) (hp : cT p = some (3, 4, 4, [some (p + 1), some (p + 2), none, none])) (hp1 : cT (p + 1) = some (0, 0, 600, [])) (hp2 : cT (p + 2) = some (0, 0, 600, [])) (hne : p + 3 ≤ 6 ∨ 9 ≤ p) : fv_M Y8_settle 2 0 0 [.ref 3, .ref p] (fw cT G (rwL L S)) none (qse G L S p) := by
  refine fv_enter rfl (Nat.le_of_ble_eq_true rfl) ?_
  obtain ⟨Q, hQ⟩ : ∃ Q : Option Value → fv_F → Option Nat → Prop, Q = (qse G L S p) := ⟨_, rfl⟩
  rw [← hQ]
  show fv_At Y8_settle 2 0 0 Q 0 [(0, .ref 3), (1, .ref p)] [] (fw cT G (rwL L S)) none 0 0
  have hly := lay_ne hp hp1 hp2
  refine fx_aload_n dX8_settle_0 rfl (i := 0) rfl ?_
  refine fw_getr dX8_settle_1 fd8_23 rfl rfl ?_
  refine fn_cV dX8_settle_4 lk8_51 fv_c4 rfl (fw_at (show cT 6 = some (3, 4, 4, [some 7, some 8, none, none]) from rfl)) (C7_clear cT 6 rfl rfl rfl G (rwL L S)) rfl rfl (by decide) (Nat.le_of_ble_eq_true rfl) ?_
  show fv_At Y8_settle 2 0 0 Q 7 [(0, .ref 3), (1, .ref p)] [] (fw cT (pL G 6 [] true) (rwL L S)) none 0 0
  refine fx_aload_n dX8_settle_7 rfl (i := 0) rfl ?_
  refine fx_iconst (v := (nI 0)) dX8_settle_8 (by decide) ?_
  refine fw_puti dX8_settle_9 fd8_27 rfl rfl ?_
  refine fx_aload_n dX8_settle_12 rfl (i := 0) rfl ?_
  refine fx_iconst (v := (nI 0)) dX8_settle_13 (by decide) ?_
  refine fn_to (show _ = (bI false) from rfl) ?_
  refine fw_putz dX8_settle_14 fd8_31 (bI_01 _) rfl rfl ?_
  refine fx_aload_n dX8_settle_17 rfl (i := 0) rfl ?_
  refine fw_getr dX8_settle_18 fd8_16 rfl rfl ?_
  refine fw_alen dX8_settle_21 rfl (by decide) (by decide) ?_
  refine fx_iconst (v := (nI 1)) dX8_settle_22 (by decide) ?_
  refine fn_isub dX8_settle_23 (by omega) ?_
  obtain ⟨G0, hG0⟩ : ∃ z, z = g2 (g2 (pL G 6 [] true) 3 3 (nI 0)) 3 4 (bI false) := ⟨_, rfl⟩
  rw [← hG0]
  have z1 : G0 3 3 = nI 0 := by rw [hG0, g2_ne _ _ (fun h => absurd h.2 (by decide))]; exact g2_eq _ _ _ _
  have z2 : G0 3 4 = bI false := by rw [hG0]; exact g2_eq _ _ _ _
  have z3 : pat G0 6 [] true := by rw [hG0]; exact pat_row (pat_pL (by decide) (fun j hj => absurd hj (Nat.not_lt_zero _))) (by rw [g2_row _ _ (by decide), g2_row _ _ (by decide)]) (by rw [g2_row _ _ (by decide), g2_row _ _ (by decide)]) (by rw [g2_row _ _ (by decide), g2_row _ _ (by decide)])
  have z4 : ∀ i, i ≠ 3 → i ≠ 6 → i ≠ 7 → i ≠ 8 → G0 i = G i := fun i a1 a2 a3 a4 => by rw [hG0, g2_row _ _ a1, g2_row _ _ a1, pL_row a2 a3 a4]
  have emk : dwn S (mk 889) (mk 889 - 1) = dwn S 88889 88888 := rfl
  refine fx_istore_n (lv2 := [(0, .ref 3), (1, .ref p), (2, .int (nI 888))]) dX8_settle_24 (i := 2) rfl (by decide) rfl ?_
  have L25 : ∀ (k : Nat) (x : Int) (G1 : Nat → Nat → Int32) (S1 : Nat → Int64) (n1 : Nat) (g1 : Bool) (d1 : tms), (x = (k : Int) - 1 ∧ k ≤ 889) → (G1 3 3 = nI n1) → (G1 3 4 = bI g1) → (pat G1 6 d1 true) → (∀ i, i ≠ 3 → i ≠ 5 → i ≠ 6 → i ≠ 7 → i ≠ 8 → G1 i = G i) → (∀ j, S1 j = if mk k ≤ j ∧ j ≤ 88888 then 0 else S j) → (∀ b, b < 889 → G1 5 b = if k ≤ b then bI false else G 5 b) → (fdT (dwn S (mk k) (mk k - 1)) d1 = fdT (dwn S 88889 88888) []) → (n1 + (dwn S (mk k) (mk k - 1)).length = (dwn S 88889 88888).length) → ((g1 || anB (dwn S (mk k) (mk k - 1))) = anB (dwn S 88889 88888)) → fv_At Y8_settle 2 0 0 Q 25 [(0, .ref 3), (1, .ref p), (2, .int (iI x))] [] (fw cT G1 (rwL L S1)) none 0 0 := by
    intro k
    induction k with
    | zero =>
      intro x G1 S1 n1 g1 d1 hx hn1 hg1 hD1 hoff hS1 hU hF hN hB
      refine fx_iload_n dX8_settle_25 rfl (i := 2) rfl ?_
      refine fn_if_ltZ (tgt := 49) dX8_settle_26 (by decide) (by omega) (by omega) (fun c26 => ?_) (fun c26 => ?_)
      · skip
        have e0 : mk 0 = 0 := rfl
        have eF : d1 = fdT (dwn S 88889 88888) [] := hF
        have eN : n1 = (dwn S 88889 88888).length := hN
        have eB : g1 = anB (dwn S 88889 88888) := by rw [← hB]; exact (Bool.or_false _).symm
        have hlen := dwn_len S 88889 88888
        have q1 : ∀ c, c ≤ 88888 → S1 c = 0 := fun c hc => by rw [hS1]; exact if_pos ⟨Nat.zero_le _, hc⟩
        have q2 : ∀ b, b < 889 → G1 5 b = bI false := fun b hb => by rw [hU b hb]; exact if_pos (Nat.zero_le _)
        refine fx_aload_n dX8_settle_49 rfl (i := 0) rfl ?_
        refine fw_geti dX8_settle_50 fd8_31 rfl rfl ?_
        refine fn_to (show _ = (bI g1) from hg1) ?_
        refine fn_if_eqB (tgt := 59) dX8_settle_53 (by decide) (fun c53 => ?_) (fun c53 => ?_)
        · skip
          refine fx_aload_n dX8_settle_59 rfl (i := 0) rfl ?_
          refine fw_geti dX8_settle_60 fd8_27 rfl rfl ?_
          refine fn_to (show _ = (nI n1) from hn1) ?_
          refine fx_sipush (v := (nI 600)) dX8_settle_63 (by decide) ?_
          refine fn_icmp_le (tgt := 72) dX8_settle_66 (by decide) (by omega) (by omega) (fun c66 => ?_) (fun c66 => ?_)
          · skip
            refine fx_aload_n dX8_settle_72 rfl (i := 1) rfl ?_
            refine fx_aload_n dX8_settle_73 rfl (i := 0) rfl ?_
            refine fw_getr dX8_settle_74 fd8_23 rfl rfl ?_
            refine fn_cV dX8_settle_77 lk8_58 fv_c4 rfl (fw_at hp) (C7_copy cT p hp hp1 hp2 6 rfl rfl rfl G1 (rwL L S1) d1 true hD1 hne) rfl rfl (by decide) (Nat.le_of_ble_eq_true rfl) ?_
            show fv_At Y8_settle 2 0 0 Q 80 [(0, .ref 3), (1, .ref p), (2, .int (iI x))] [] (fw cT (pL G1 p d1 true) (rwL L S1)) none 0 0
            refine fx_aload_n dX8_settle_80 rfl (i := 0) rfl ?_
            refine fw_geti dX8_settle_81 fd8_27 rfl rfl ?_
            refine fn_to (show _ = (nI n1) from (by rw [pL_row (Ne.symm hly.1) (Ne.symm hly.2.2.1) (Ne.symm hly.2.2.2.2.1)]; exact hn1)) ?_
            exact fx_iret dX8_settle_84 rfl rfl rfl (by rw [hQ]; exact ⟨pL G1 p d1 true, S1, by unfold stl; rw [← eB, c53, ← eN, if_neg (by decide), if_neg (by omega)]; rfl, rfl, rfl, q1, fun b hb => by rw [pL_row (Ne.symm hly.2.1) (Ne.symm hly.2.2.2.1) (Ne.symm hly.2.2.2.2.2)]; exact q2 b hb, fun i a1 a2 a3 a4 a5 b1 b2 b3 => by rw [pL_row b1 b2 b3]; exact hoff i a1 a2 a3 a4 a5, fun h => absurd h (by unfold stl; rw [← eB, c53, ← eN, if_neg (by decide), if_neg (by omega)]; omega), fun _ => by rw [show trm S = d1 from by rw [eF, fdT_map _ _ (by simp; omega)]; rfl]; exact pat_pL hD1.1 (fun j hj => (hD1.2.2.2 j hj).2.2)⟩)
          · skip
            refine fx_bipush (v := (iI (-6))) dX8_settle_69 (by decide) ?_
            exact fx_iret dX8_settle_71 rfl rfl rfl (by rw [hQ]; exact ⟨G1, S1, by unfold stl; rw [← eB, c53, ← eN, if_neg (by decide), if_pos c66]; try rfl, rfl, rfl, q1, q2, fun i a1 a2 a3 a4 a5 _ _ _ => hoff i a1 a2 a3 a4 a5, fun _ => hoff, fun h => absurd h (by unfold stl; rw [← eB, c53, ← eN, if_neg (by decide), if_pos c66]; decide)⟩)
        · skip
          refine fx_bipush (v := (iI (-5))) dX8_settle_56 (by decide) ?_
          exact fx_iret dX8_settle_58 rfl rfl rfl (by rw [hQ]; exact ⟨G1, S1, by unfold stl; rw [← eB, c53]; rfl, rfl, rfl, q1, q2, fun i a1 a2 a3 a4 a5 _ _ _ => hoff i a1 a2 a3 a4 a5, fun _ => hoff, fun h => absurd h (by unfold stl; rw [← eB, c53, if_pos rfl]; decide)⟩)
      · exfalso; omega
    | succ k ih25 =>
      intro x G1 S1 n1 g1 d1 hx hn1 hg1 hD1 hoff hS1 hU hF hN hB
      refine fx_iload_n dX8_settle_25 rfl (i := 2) rfl ?_
      refine fn_if_ltZ (tgt := 49) dX8_settle_26 (by decide) (by omega) (by omega) (fun c26 => ?_) (fun c26 => ?_)
      · exfalso; omega
      · skip
        obtain rfl : x = (k : Int) := by omega
        obtain ⟨u, hu⟩ := hok.1 k (by omega)
        have hU1 : G1 5 k = bI u := by rw [hU k (by omega), if_neg (by omega)]; exact hu
        have ecg : dwn S1 (min (k * 100 + 100 - 1) 88888 + 1 - k * 100) (min (k * 100 + 100 - 1) 88888) = dwn S (min (k * 100 + 100 - 1) 88888 + 1 - k * 100) (min (k * 100 + 100 - 1) 88888) := dwn_cong _ _ (fun j h1 h2 => by rw [hS1]; exact if_neg (by unfold mk; omega)) (by omega)
        rw [mk_s (show k < 889 by omega)] at hF hN hB
        rw [fdT_app] at hF
        rw [List.length_append] at hN
        rw [anB_app, ← Bool.or_assoc] at hB
        show fv_At Y8_settle 2 0 0 Q 29 [(0, .ref 3), (1, .ref p), (2, .int (nI k))] [] (fw cT G1 (rwL L S1)) none 0 0
        refine fx_aload_n dX8_settle_29 rfl (i := 0) rfl ?_
        refine fw_getr dX8_settle_30 fd8_16 rfl rfl ?_
        refine fx_iload_n dX8_settle_33 rfl (i := 2) rfl ?_
        refine fw_zald k dX8_settle_34 rfl rfl (by omega) (by decide) ?_
        refine fn_to (show _ = (bI u) from hU1) ?_
        refine fn_if_eqB (tgt := 43) dX8_settle_35 (by decide) (fun c35 => ?_) (fun c35 => ?_)
        · skip
          have ec : dwn S (min (k * 100 + 100 - 1) 88888 + 1 - k * 100) (min (k * 100 + 100 - 1) 88888) = [] := dwn_none _ _ (fun j h1 h2 => by
            by_cases e : S j = 0
            · exact e
            · have h3 := hok.2 j (by omega) e
              rw [show j / 100 = k by omega, hu, c35] at h3
              exact absurd h3 (by decide)) (by omega)
          rw [ec] at hF hN hB
          have o5 : ∀ j, S1 j = if mk k ≤ j ∧ j ≤ 88888 then 0 else S j := fun j => by
            by_cases e : S j = 0
            · rw [hS1]; split <;> split <;> first | rfl | exact e | exact e.symm
            · rw [hS1]; unfold mk; split <;> split <;> first | rfl | (exfalso; omega) | (exfalso; have h3 := hok.2 j (by omega) e; rw [show j / 100 = k by omega, hu, c35] at h3; exact absurd h3 (by decide))
          have oU : ∀ b, b < 889 → G1 5 b = if k ≤ b then bI false else G 5 b := fun b hb => by
            by_cases e : b = k
            · rw [e, hU1, if_pos (by omega), c35]
            · rw [hU b hb]; split <;> split <;> first | rfl | (exfalso; omega)
          have oN : n1 + (dwn S (mk k) (mk k - 1)).length = (dwn S 88889 88888).length := by simpa using hN
          have oB : (g1 || anB (dwn S (mk k) (mk k - 1))) = anB (dwn S 88889 88888) := by rw [← hB]; simp [anB]
          show fv_At Y8_settle 2 0 0 Q 43 [(0, .ref 3), (1, .ref p), (2, .int (iI ((k : Int))))] [] (fw cT G1 (rwL L S1)) none 0 0
          refine fn_iincZ (lv2 := [(0, .ref 3), (1, .ref p), (2, .int (iI ((k : Int) + (-1))))]) dX8_settle_43  rfl (by decide) rfl ?_
          refine fx_goto (tgt := 25) dX8_settle_46 (by decide) ?_
          exact (ih25 ((k : Int) + (-1)) G1 S1 n1 g1 d1 (by omega) hn1 hg1 hD1 hoff o5 oU hF oN oB)
        · skip
          refine fx_aload_n dX8_settle_38 rfl (i := 0) rfl ?_
          refine fx_iload_n dX8_settle_39 rfl (i := 2) rfl ?_
          refine fx_callV dX8_settle_40 lk8_54 fv_c5 rfl (fw_at (show cT 3 = some (3, 5, 5, [some 4, some 5, some 6, none, none]) from rfl)) (C8_takeOut G1 L S1 k (by omega) n1 g1 d1 hn1 hg1 hD1) rfl rfl (by decide) (Nat.le_of_ble_eq_true rfl) (by decide) (by decide) (fun r40 f40 al40 h40 => ?_)
          obtain ⟨G2, S2, rfl, rfl, rfl, t1, t2, t3, t4, t5, t6⟩ := h40
          rw [ecg] at t1 t2 t3
          show fv_At Y8_settle 2 0 0 Q 43 [(0, .ref 3), (1, .ref p), (2, .int (nI k))] [] (fw cT G2 (rwL L S2)) none 0 0
          have o5 : ∀ j, S2 j = if mk k ≤ j ∧ j ≤ 88888 then 0 else S j := fun j => by
            rw [t6, hS1]; unfold mk; split <;> split <;> first | rfl | (split <;> first | rfl | (exfalso; omega)) | (exfalso; omega)
          have oU : ∀ b, b < 889 → G2 5 b = if k ≤ b then bI false else G 5 b := fun b hb => by
            rw [t4]; unfold upU; by_cases e : b = k
            · rw [if_pos e, if_pos (by omega)]
            · rw [if_neg e, hU b hb]; split <;> split <;> first | rfl | (exfalso; omega)
          have oo : ∀ i, i ≠ 3 → i ≠ 5 → i ≠ 6 → i ≠ 7 → i ≠ 8 → G2 i = G i := fun i a1 a2 a3 a4 a5 => (t5 i a1 a2 a3 a4 a5).trans (hoff i a1 a2 a3 a4 a5)
          have oN : (n1 + (dwn S (min (k * 100 + 100 - 1) 88888 + 1 - k * 100) (min (k * 100 + 100 - 1) 88888)).length) + (dwn S (mk k) (mk k - 1)).length = (dwn S 88889 88888).length := by omega
          show fv_At Y8_settle 2 0 0 Q 43 [(0, .ref 3), (1, .ref p), (2, .int (iI ((k : Int))))] [] (fw cT G2 (rwL L S2)) none 0 0
          refine fn_iincZ (lv2 := [(0, .ref 3), (1, .ref p), (2, .int (iI ((k : Int) + (-1))))]) dX8_settle_43  rfl (by decide) rfl ?_
          refine fx_goto (tgt := 25) dX8_settle_46 (by decide) ?_
          exact (ih25 ((k : Int) + (-1)) G2 S2 (n1 + (dwn S (min (k * 100 + 100 - 1) 88888 + 1 - k * 100) (min (k * 100 + 100 - 1) 88888)).length) (g1 || anB (dwn S (min (k * 100 + 100 - 1) 88888 + 1 - k * 100) (min (k * 100 + 100 - 1) 88888))) (fdT (dwn S (min (k * 100 + 100 - 1) 88888 + 1 - k * 100) (min (k * 100 + 100 - 1) 88888)) d1) (by omega) t1 t2 t3 oo o5 oU hF oN hB)
  exact (L25 889 ((888 : Int)) G0 S 0 false ([]) (by decide) z1 z2 z3 (fun i a1 _ a3 a4 a5 => z4 i a1 a3 a4 a5) (fun j => by rw [if_neg (by unfold mk; omega)]) (fun b hb => by rw [z4 5 (by decide) (by decide) (by decide) (by decide), if_neg (by omega)]) rfl (Nat.zero_add _) rfl)
