/-- the terms of a polynomial: exponents and number -/
abbrev tms : Type := List (Nat × Int32)
def tx (ts : tms) (j : Nat) : Nat := (ts.getD j (0, 0)).1
def tn (ts : tms) (j : Nat) : Int32 := (ts.getD j (0, 0)).2
theorem drD {ts : tms} {j : Nat} (h : j < ts.length) : ts.drop j = (tx ts j, tn ts j) :: ts.drop (j + 1) := by
  rw [List.drop_eq_getElem_cons h]
  unfold tx tn
  rw [List.getD_eq_getElem?_getD, List.getElem?_eq_getElem h]
  rfl
theorem tkD {ts : tms} {j : Nat} (h : j < ts.length) : ts.take (j + 1) = ts.take j ++ [(tx ts j, tn ts j)] := by
  rw [List.take_succ, List.getElem?_eq_getElem h]
  unfold tx tn
  rw [List.getD_eq_getElem?_getD, List.getElem?_eq_getElem h]
  rfl
theorem txA_l (ts us : tms) {j : Nat} (h : j < ts.length) : tx (ts ++ us) j = tx ts j := by
  unfold tx
  rw [List.getD_eq_getElem?_getD, List.getD_eq_getElem?_getD, List.getElem?_append_left h]
theorem tnA_l (ts us : tms) {j : Nat} (h : j < ts.length) : tn (ts ++ us) j = tn ts j := by
  unfold tn
  rw [List.getD_eq_getElem?_getD, List.getD_eq_getElem?_getD, List.getElem?_append_left h]
theorem txA_e (ts : tms) (q : Nat × Int32) : tx (ts ++ [q]) ts.length = q.1 := by
  unfold tx
  rw [List.getD_eq_getElem?_getD, List.getElem?_append_right (Nat.le_refl _), Nat.sub_self]
  rfl
theorem tnA_e (ts : tms) (q : Nat × Int32) : tn (ts ++ [q]) ts.length = q.2 := by
  unfold tn
  rw [List.getD_eq_getElem?_getD, List.getElem?_append_right (Nat.le_refl _), Nat.sub_self]
  rfl
/-- a sheet at cell p: its terms, whether it is there -/
def pat (G : Nat → Nat → Int32) (p : Nat) (ts : tms) (t : Bool) : Prop := ts.length ≤ 600 ∧ G p 2 = nI ts.length ∧ G p 3 = bI t ∧ ∀ j, j < ts.length → G (p + 1) j = nI (tx ts j) ∧ G (p + 2) j = tn ts j ∧ tx ts j < 100000
/-- these are put there -/
def pL (G : Nat → Nat → Int32) (p : Nat) (ts : tms) (t : Bool) : Nat → Nat → Int32 := fun i j =>
  if i = p ∧ j = 2 then nI ts.length else if i = p ∧ j = 3 then bI t else if i = p + 1 ∧ j < ts.length then nI (tx ts j) else if i = p + 2 ∧ j < ts.length then tn ts j else G i j
theorem pL_row {G : Nat → Nat → Int32} {p i : Nat} {ts : tms} {t : Bool} (h : i ≠ p) (h1 : i ≠ p + 1) (h2 : i ≠ p + 2) : pL G p ts t i = G i := by
  funext j
  unfold pL
  rw [if_neg (fun q => h q.1), if_neg (fun q => h q.1), if_neg (fun q => h1 q.1), if_neg (fun q => h2 q.1)]
theorem pat_pL {G : Nat → Nat → Int32} {p : Nat} {ts : tms} {t : Bool} (hl : ts.length ≤ 600) (hx : ∀ j, j < ts.length → tx ts j < 100000) : pat (pL G p ts t) p ts t := by
  refine ⟨hl, if_pos ⟨rfl, rfl⟩, ?_, fun j hj => ⟨?_, ?_, hx j hj⟩⟩
  · unfold pL
    rw [if_neg (fun q => absurd q.2 (by decide)), if_pos ⟨rfl, rfl⟩]
  · unfold pL
    rw [if_neg (fun q => by omega), if_neg (fun q => by omega), if_pos ⟨rfl, hj⟩]
  · unfold pL
    rw [if_neg (fun q => by omega), if_neg (fun q => by omega), if_neg (fun q => by omega), if_pos ⟨rfl, hj⟩]
theorem pat_row {G G2 : Nat → Nat → Int32} {p : Nat} {ts : tms} {t : Bool} (h : pat G p ts t) (h0 : G2 p = G p) (h1 : G2 (p + 1) = G (p + 1)) (h2 : G2 (p + 2) = G (p + 2)) : pat G2 p ts t := by
  unfold pat
  rw [h0, h1, h2]
  exact h
theorem pL_nil (G : Nat → Nat → Int32) (p : Nat) (t : Bool) : g2 (g2 G p 2 (nI 0)) p 3 (bI t) = pL G p [] t := by
  funext i j
  unfold g2 pL
  by_cases h3 : i = p ∧ j = 3
  · rw [if_pos h3, if_neg (show ¬ (i = p ∧ j = 2) by omega), if_pos h3]
  · by_cases h2 : i = p ∧ j = 2
    · rw [if_neg h3, if_pos h2, if_pos h2]; rfl
    · rw [if_neg h3, if_neg h2, if_neg h2, if_neg h3, if_neg (show ¬ (i = p + 1 ∧ j < ([] : tms).length) from fun q => Nat.not_lt_zero _ q.2), if_neg (show ¬ (i = p + 2 ∧ j < ([] : tms).length) from fun q => Nat.not_lt_zero _ q.2)]
theorem pL_app (G : Nat → Nat → Int32) (p : Nat) (ts : tms) (t : Bool) (c : Nat) (x : Int32) : g2 (g2 (g2 (pL G p ts t) (p + 1) ts.length (nI c)) (p + 2) ts.length x) p 2 (nI (ts.length + 1)) = pL G p (ts ++ [(c, x)]) t := by
  funext i j
  unfold g2 pL
  have hl : (ts ++ [(c, x)]).length = ts.length + 1 := by simp
  rw [hl]
  by_cases a : i = p ∧ j = 2
  · rw [if_pos a, if_pos a]
  · rw [if_neg a, if_neg a, if_neg a]
    by_cases b : i = p ∧ j = 3
    · rw [if_neg (show ¬ (i = p + 2 ∧ j = ts.length) by omega), if_neg (show ¬ (i = p + 1 ∧ j = ts.length) by omega), if_pos b, if_pos b]
    · rw [if_neg b, if_neg b]
      by_cases c2 : i = p + 1 ∧ j = ts.length
      · rw [if_neg (show ¬ (i = p + 2 ∧ j = ts.length) by omega), if_pos c2, if_pos (show i = p + 1 ∧ j < ts.length + 1 by omega), c2.2, txA_e]
      · by_cases c3 : i = p + 1 ∧ j < ts.length
        · rw [if_neg (show ¬ (i = p + 2 ∧ j = ts.length) by omega), if_neg c2, if_pos c3, if_pos (show i = p + 1 ∧ j < ts.length + 1 by omega), txA_l _ _ c3.2]
        · by_cases c1 : i = p + 2 ∧ j = ts.length
          · rw [if_pos c1, if_neg (show ¬ (i = p + 1 ∧ j < ts.length + 1) by omega), if_pos (show i = p + 2 ∧ j < ts.length + 1 by omega), c1.2, tnA_e]
          · by_cases c4 : i = p + 2 ∧ j < ts.length
            · rw [if_neg c1, if_neg c2, if_neg c3, if_pos c4, if_neg (show ¬ (i = p + 1 ∧ j < ts.length + 1) by omega), if_pos (show i = p + 2 ∧ j < ts.length + 1 by omega), tnA_l _ _ c4.2]
            · rw [if_neg c1, if_neg c2, if_neg c3, if_neg c4, if_neg (show ¬ (i = p + 1 ∧ j < ts.length + 1) by omega), if_neg (show ¬ (i = p + 2 ∧ j < ts.length + 1) by omega)]

set_option maxRecDepth 4000 in
set_option maxHeartbeats 1000000 in
theorem C7_size (T : fw_T) (p : Nat) (hp : T p = some (3, 4, 4, [some (p + 1), some (p + 2), none, none])) (hp1 : T (p + 1) = some (0, 0, 600, [])) (hp2 : T (p + 2) = some (0, 0, 600, [])) (G : Nat → Nat → Int32) (L : Nat → Nat → Int64) (ts : tms) (t : Bool) (hP : pat G p ts t) : fv_M Y7_size 0 0 0 [.ref p] (fw T G L) none (fv_eq (some (.int (nI ts.length))) (fw T G L)) := by
  refine fv_enter rfl (Nat.le_of_ble_eq_true rfl) ?_
  obtain ⟨Q, hQ⟩ : ∃ Q : Option Value → fv_F → Option Nat → Prop, Q = (fv_eq (some (.int (nI ts.length))) (fw T G L)) := ⟨_, rfl⟩
  rw [← hQ]
  show fv_At Y7_size 0 0 0 Q 0 [(0, .ref p)] [] (fw T G L) none 0 0
  refine fx_aload_n dX7_size_0 rfl (i := 0) rfl ?_
  refine fw_geti dX7_size_1 fd7_18 hp rfl ?_
  refine fn_to (show _ = (nI ts.length) from hP.2.1) ?_
  exact fx_iret dX7_size_4 rfl rfl rfl (by rw [hQ]; exact ⟨rfl, rfl, rfl⟩)

set_option maxRecDepth 4000 in
set_option maxHeartbeats 1000000 in
theorem C7_isThere (T : fw_T) (p : Nat) (hp : T p = some (3, 4, 4, [some (p + 1), some (p + 2), none, none])) (hp1 : T (p + 1) = some (0, 0, 600, [])) (hp2 : T (p + 2) = some (0, 0, 600, [])) (G : Nat → Nat → Int32) (L : Nat → Nat → Int64) (t : Bool) (ht : G p 3 = bI t) : fv_M Y7_isThere 0 0 0 [.ref p] (fw T G L) none (fv_eq (some (.int (bI t))) (fw T G L)) := by
  refine fv_enter rfl (Nat.le_of_ble_eq_true rfl) ?_
  obtain ⟨Q, hQ⟩ : ∃ Q : Option Value → fv_F → Option Nat → Prop, Q = (fv_eq (some (.int (bI t))) (fw T G L)) := ⟨_, rfl⟩
  rw [← hQ]
  show fv_At Y7_isThere 0 0 0 Q 0 [(0, .ref p)] [] (fw T G L) none 0 0
  refine fx_aload_n dX7_isThere_0 rfl (i := 0) rfl ?_
  refine fw_geti dX7_isThere_1 fd7_22 hp rfl ?_
  refine fn_to (show _ = (bI t) from ht) ?_
  exact fx_zret dX7_isThere_4 rfl (bI_01 _) rfl rfl (by rw [hQ]; exact ⟨rfl, rfl, rfl⟩)

set_option maxRecDepth 4000 in
set_option maxHeartbeats 1000000 in
theorem C7_vanish (T : fw_T) (p : Nat) (hp : T p = some (3, 4, 4, [some (p + 1), some (p + 2), none, none])) (hp1 : T (p + 1) = some (0, 0, 600, [])) (hp2 : T (p + 2) = some (0, 0, 600, [])) (G : Nat → Nat → Int32) (L : Nat → Nat → Int64) : fv_M Y7_vanish 0 0 0 [.ref p] (fw T G L) none (fv_eq none (fw T (pL G p [] false) L)) := by
  refine fv_enter rfl (Nat.le_of_ble_eq_true rfl) ?_
  obtain ⟨Q, hQ⟩ : ∃ Q : Option Value → fv_F → Option Nat → Prop, Q = (fv_eq none (fw T (pL G p [] false) L)) := ⟨_, rfl⟩
  rw [← hQ]
  show fv_At Y7_vanish 0 0 0 Q 0 [(0, .ref p)] [] (fw T G L) none 0 0
  refine fx_aload_n dX7_vanish_0 rfl (i := 0) rfl ?_
  refine fx_iconst (v := (nI 0)) dX7_vanish_1 (by decide) ?_
  refine fw_puti dX7_vanish_2 fd7_18 hp rfl ?_
  refine fx_aload_n dX7_vanish_5 rfl (i := 0) rfl ?_
  refine fx_iconst (v := (nI 0)) dX7_vanish_6 (by decide) ?_
  refine fn_to (show _ = (bI false) from rfl) ?_
  refine fw_putz dX7_vanish_7 fd7_22 (bI_01 _) hp rfl ?_
  exact fx_vret dX7_vanish_10 rfl rfl rfl (by rw [hQ]; exact ⟨rfl, by rw [pL_nil], rfl⟩)

set_option maxRecDepth 4000 in
set_option maxHeartbeats 1000000 in
theorem C7_clear (T : fw_T) (p : Nat) (hp : T p = some (3, 4, 4, [some (p + 1), some (p + 2), none, none])) (hp1 : T (p + 1) = some (0, 0, 600, [])) (hp2 : T (p + 2) = some (0, 0, 600, [])) (G : Nat → Nat → Int32) (L : Nat → Nat → Int64) : fv_M Y7_clear 0 0 0 [.ref p] (fw T G L) none (fv_eq none (fw T (pL G p [] true) L)) := by
  refine fv_enter rfl (Nat.le_of_ble_eq_true rfl) ?_
  obtain ⟨Q, hQ⟩ : ∃ Q : Option Value → fv_F → Option Nat → Prop, Q = (fv_eq none (fw T (pL G p [] true) L)) := ⟨_, rfl⟩
  rw [← hQ]
  show fv_At Y7_clear 0 0 0 Q 0 [(0, .ref p)] [] (fw T G L) none 0 0
  refine fx_aload_n dX7_clear_0 rfl (i := 0) rfl ?_
  refine fx_iconst (v := (nI 0)) dX7_clear_1 (by decide) ?_
  refine fw_puti dX7_clear_2 fd7_18 hp rfl ?_
  refine fx_aload_n dX7_clear_5 rfl (i := 0) rfl ?_
  refine fx_iconst (v := (nI 1)) dX7_clear_6 (by decide) ?_
  refine fn_to (show _ = (bI true) from rfl) ?_
  refine fw_putz dX7_clear_7 fd7_22 (bI_01 _) hp rfl ?_
  exact fx_vret dX7_clear_10 rfl rfl rfl (by rw [hQ]; exact ⟨rfl, by rw [pL_nil], rfl⟩)

set_option maxRecDepth 4000 in
set_option maxHeartbeats 1000000 in
theorem C7_append (T : fw_T) (p : Nat) (hp : T p = some (3, 4, 4, [some (p + 1), some (p + 2), none, none])) (hp1 : T (p + 1) = some (0, 0, 600, [])) (hp2 : T (p + 2) = some (0, 0, 600, [])) (G : Nat → Nat → Int32) (L : Nat → Nat → Int64) (n c : Nat) (x : Int32) (hn : G p 2 = nI n) (hn6 : n ≤ 600) : fv_M Y7_append 0 0 0 [.ref p, .int (nI c), .int x] (fw T G L) none (fv_eq none (if n < 600 then fw T (g2 (g2 (g2 G (p + 1) n (nI c)) (p + 2) n x) p 2 (nI (n + 1))) L else fw T G L)) := by
  refine fv_enter rfl (Nat.le_of_ble_eq_true rfl) ?_
  obtain ⟨Q, hQ⟩ : ∃ Q : Option Value → fv_F → Option Nat → Prop, Q = (fv_eq none (if n < 600 then fw T (g2 (g2 (g2 G (p + 1) n (nI c)) (p + 2) n x) p 2 (nI (n + 1))) L else fw T G L)) := ⟨_, rfl⟩
  rw [← hQ]
  show fv_At Y7_append 0 0 0 Q 0 [(0, .ref p), (1, .int (nI c)), (2, .int x)] [] (fw T G L) none 0 0
  refine fx_aload_n dX7_append_0 rfl (i := 0) rfl ?_
  refine fw_geti dX7_append_1 fd7_18 hp rfl ?_
  refine fn_to (show _ = (nI n) from hn) ?_
  refine fx_sipush (v := (nI 600)) dX7_append_4 (by decide) ?_
  refine fn_icmp_ge (tgt := 40) dX7_append_7 (by decide) (by omega) (by omega) (fun c7 => ?_) (fun c7 => ?_)
  · skip
    exact fx_vret dX7_append_40 rfl rfl rfl (by rw [hQ]; exact ⟨rfl, by first | rw [if_pos (by omega)] | rw [if_neg (by omega)], rfl⟩)
  · skip
    refine fx_aload_n dX7_append_10 rfl (i := 0) rfl ?_
    refine fw_getr dX7_append_11 fd7_9 hp rfl ?_
    refine fx_aload_n dX7_append_14 rfl (i := 0) rfl ?_
    refine fw_geti dX7_append_15 fd7_18 hp rfl ?_
    refine fn_to (show _ = (nI n) from hn) ?_
    refine fx_iload_n dX7_append_18 rfl (i := 1) rfl ?_
    refine fw_iast n dX7_append_19 hp1 rfl (by omega) (by decide) ?_
    refine fx_aload_n dX7_append_20 rfl (i := 0) rfl ?_
    refine fw_getr dX7_append_21 fd7_15 hp rfl ?_
    refine fx_aload_n dX7_append_24 rfl (i := 0) rfl ?_
    refine fw_geti dX7_append_25 fd7_18 hp rfl ?_
    refine fn_to (show _ = (nI n) from (by rw [g2_ne _ _ (fun h => absurd h.1 (by omega))]; exact hn)) ?_
    refine fx_iload_n dX7_append_28 rfl (i := 2) rfl ?_
    refine fw_iast n dX7_append_29 hp2 rfl (by omega) (by decide) ?_
    refine fx_aload_n dX7_append_30 rfl (i := 0) rfl ?_
    refine fx_dup dX7_append_31 rfl ?_
    refine fw_geti dX7_append_32 fd7_18 hp rfl ?_
    refine fn_to (show _ = (nI n) from (by rw [g2_ne _ _ (fun h => absurd h.1 (by omega)), g2_ne _ _ (fun h => absurd h.1 (by omega))]; exact hn)) ?_
    refine fx_iconst (v := (nI 1)) dX7_append_35 (by decide) ?_
    refine fn_iadd dX7_append_36 ?_
    refine fw_puti dX7_append_37 fd7_18 hp rfl ?_
    exact fx_vret dX7_append_40 rfl rfl rfl (by rw [hQ]; exact ⟨rfl, by first | rw [if_pos (by omega)] | rw [if_neg (by omega)], rfl⟩)

set_option maxRecDepth 4000 in
set_option maxHeartbeats 1000000 in
theorem C7_exponentsAt (T : fw_T) (p : Nat) (hp : T p = some (3, 4, 4, [some (p + 1), some (p + 2), none, none])) (hp1 : T (p + 1) = some (0, 0, 600, [])) (hp2 : T (p + 2) = some (0, 0, 600, [])) (G : Nat → Nat → Int32) (L : Nat → Nat → Int64) (ts : tms) (t : Bool) (hP : pat G p ts t) (j : Nat) (hj : j < ts.length) : fv_M Y7_exponentsAt 0 0 0 [.ref p, .int (nI j)] (fw T G L) none (fv_eq (some (.int (nI (tx ts j)))) (fw T G L)) := by
  refine fv_enter rfl (Nat.le_of_ble_eq_true rfl) ?_
  obtain ⟨Q, hQ⟩ : ∃ Q : Option Value → fv_F → Option Nat → Prop, Q = (fv_eq (some (.int (nI (tx ts j)))) (fw T G L)) := ⟨_, rfl⟩
  rw [← hQ]
  show fv_At Y7_exponentsAt 0 0 0 Q 0 [(0, .ref p), (1, .int (nI j))] [] (fw T G L) none 0 0
  have h6 := hP.1
  refine fx_iload_n dX7_exponentsAt_0 rfl (i := 1) rfl ?_
  refine fn_if_lt (tgt := 21) dX7_exponentsAt_1 (by decide) (by omega) (fun c1 => ?_) (fun c1 => ?_)
  · exfalso; omega
  · skip
    refine fx_iload_n dX7_exponentsAt_4 rfl (i := 1) rfl ?_
    refine fx_aload_n dX7_exponentsAt_5 rfl (i := 0) rfl ?_
    refine fw_geti dX7_exponentsAt_6 fd7_18 hp rfl ?_
    refine fn_to (show _ = (nI ts.length) from hP.2.1) ?_
    refine fn_icmp_ge (tgt := 21) dX7_exponentsAt_9 (by decide) (by omega) (by omega) (fun c9 => ?_) (fun c9 => ?_)
    · exfalso; omega
    · skip
      refine fx_aload_n dX7_exponentsAt_12 rfl (i := 0) rfl ?_
      refine fw_getr dX7_exponentsAt_13 fd7_9 hp rfl ?_
      refine fx_iload_n dX7_exponentsAt_16 rfl (i := 1) rfl ?_
      refine fw_iald j dX7_exponentsAt_17 hp1 rfl (by omega) (by decide) ?_
      refine fn_to (show _ = (nI (tx ts j)) from (hP.2.2.2 j hj).1) ?_
      refine fx_goto (tgt := 22) dX7_exponentsAt_18 (by decide) ?_
      exact fx_iret dX7_exponentsAt_22 rfl rfl rfl (by rw [hQ]; exact ⟨rfl, rfl, rfl⟩)

set_option maxRecDepth 4000 in
set_option maxHeartbeats 1000000 in
theorem C7_numberAt (T : fw_T) (p : Nat) (hp : T p = some (3, 4, 4, [some (p + 1), some (p + 2), none, none])) (hp1 : T (p + 1) = some (0, 0, 600, [])) (hp2 : T (p + 2) = some (0, 0, 600, [])) (G : Nat → Nat → Int32) (L : Nat → Nat → Int64) (ts : tms) (t : Bool) (hP : pat G p ts t) (j : Nat) (hj : j < ts.length) : fv_M Y7_numberAt 0 0 0 [.ref p, .int (nI j)] (fw T G L) none (fv_eq (some (.int (tn ts j))) (fw T G L)) := by
  refine fv_enter rfl (Nat.le_of_ble_eq_true rfl) ?_
  obtain ⟨Q, hQ⟩ : ∃ Q : Option Value → fv_F → Option Nat → Prop, Q = (fv_eq (some (.int (tn ts j))) (fw T G L)) := ⟨_, rfl⟩
  rw [← hQ]
  show fv_At Y7_numberAt 0 0 0 Q 0 [(0, .ref p), (1, .int (nI j))] [] (fw T G L) none 0 0
  have h6 := hP.1
  refine fx_iload_n dX7_numberAt_0 rfl (i := 1) rfl ?_
  refine fn_if_lt (tgt := 21) dX7_numberAt_1 (by decide) (by omega) (fun c1 => ?_) (fun c1 => ?_)
  · exfalso; omega
  · skip
    refine fx_iload_n dX7_numberAt_4 rfl (i := 1) rfl ?_
    refine fx_aload_n dX7_numberAt_5 rfl (i := 0) rfl ?_
    refine fw_geti dX7_numberAt_6 fd7_18 hp rfl ?_
    refine fn_to (show _ = (nI ts.length) from hP.2.1) ?_
    refine fn_icmp_ge (tgt := 21) dX7_numberAt_9 (by decide) (by omega) (by omega) (fun c9 => ?_) (fun c9 => ?_)
    · exfalso; omega
    · skip
      refine fx_aload_n dX7_numberAt_12 rfl (i := 0) rfl ?_
      refine fw_getr dX7_numberAt_13 fd7_15 hp rfl ?_
      refine fx_iload_n dX7_numberAt_16 rfl (i := 1) rfl ?_
      refine fw_iald j dX7_numberAt_17 hp2 rfl (by omega) (by decide) ?_
      refine fn_to (show _ = (tn ts j) from (hP.2.2.2 j hj).2.1) ?_
      refine fx_goto (tgt := 22) dX7_numberAt_18 (by decide) ?_
      exact fx_iret dX7_numberAt_22 rfl rfl rfl (by rw [hQ]; exact ⟨rfl, rfl, rfl⟩)

/-- the number with exponents -/
def nofL : tms → Nat → Int32
  | [], _ => 0
  | q :: r, c => if q.1 = c then q.2 else nofL r c
/-- the greatest exponent of a letter -/
def tpl (l : Nat) : tms → Nat → Nat
  | [], m => m
  | q :: r, m => tpl l r (max m (fat q.1 (5 - l)))
/-- a long made of all terms -/
def dgl : tms → Int64 → Int64
  | [], h => h
  | q :: r, h => dgl r (31 * (31 * h + (nI q.1).toInt64) + q.2.toInt64)
theorem tpl_lt (l : Nat) : ∀ (ts : tms) (m : Nat), m < 10 → tpl l ts m < 10
  | [], _, h => h
  | q :: r, m, h => tpl_lt l r _ (by have := fat_lt q.1 (5 - l); omega)

set_option maxRecDepth 4000 in
set_option maxHeartbeats 1000000 in
theorem C7_numberOf (T : fw_T) (p : Nat) (hp : T p = some (3, 4, 4, [some (p + 1), some (p + 2), none, none])) (hp1 : T (p + 1) = some (0, 0, 600, [])) (hp2 : T (p + 2) = some (0, 0, 600, [])) (G : Nat → Nat → Int32) (L : Nat → Nat → Int64) (ts : tms) (t : Bool) (hP : pat G p ts t) (c : Nat) (hc : c < 2147483648) : fv_M Y7_numberOf 1 0 0 [.ref p, .int (nI c)] (fw T G L) none (fv_eq (some (.int (nofL ts c))) (fw T G L)) := by
  refine fv_enter rfl (Nat.le_of_ble_eq_true rfl) ?_
  obtain ⟨Q, hQ⟩ : ∃ Q : Option Value → fv_F → Option Nat → Prop, Q = (fv_eq (some (.int (nofL ts c))) (fw T G L)) := ⟨_, rfl⟩
  rw [← hQ]
  show fv_At Y7_numberOf 1 0 0 Q 0 [(0, .ref p), (1, .int (nI c))] [] (fw T G L) none 0 0
  have h6 := hP.1
  refine fx_iconst (v := (nI 0)) dX7_numberOf_0 (by decide) ?_
  refine fx_istore_n (lv2 := [(0, .ref p), (1, .int (nI c)), (2, .int (nI 0))]) dX7_numberOf_1 (i := 2) rfl (by decide) rfl ?_
  have L2 : ∀ (k : Nat) (j : Nat), (j + k = ts.length) → (nofL (ts.drop j) c = nofL ts c) → fv_At Y7_numberOf 1 0 0 Q 2 [(0, .ref p), (1, .int (nI c)), (2, .int (nI j))] [] (fw T G L) none 0 0 := by
    intro k
    induction k with
    | zero =>
      intro j hj hR
      refine fx_iload_n dX7_numberOf_2 rfl (i := 2) rfl ?_
      refine fx_aload_n dX7_numberOf_3 rfl (i := 0) rfl ?_
      refine fw_geti dX7_numberOf_4 fd7_18 hp rfl ?_
      refine fn_to (show _ = (nI ts.length) from hP.2.1) ?_
      refine fn_icmp_ge (tgt := 31) dX7_numberOf_7 (by decide) (by omega) (by omega) (fun c7 => ?_) (fun c7 => ?_)
      · skip
        refine fx_iconst (v := (nI 0)) dX7_numberOf_31 (by decide) ?_
        refine fn_to (show _ = 0 from rfl) ?_
        exact fx_iret dX7_numberOf_32 rfl rfl rfl (by rw [hQ]; exact ⟨by rw [← hR, List.drop_eq_nil_of_le (by omega)]; rfl, rfl, rfl⟩)
      · exfalso; omega
    | succ k ih2 =>
      intro j hj hR
      refine fx_iload_n dX7_numberOf_2 rfl (i := 2) rfl ?_
      refine fx_aload_n dX7_numberOf_3 rfl (i := 0) rfl ?_
      refine fw_geti dX7_numberOf_4 fd7_18 hp rfl ?_
      refine fn_to (show _ = (nI ts.length) from hP.2.1) ?_
      refine fn_icmp_ge (tgt := 31) dX7_numberOf_7 (by decide) (by omega) (by omega) (fun c7 => ?_) (fun c7 => ?_)
      · exfalso; omega
      · skip
        refine fx_aload_n dX7_numberOf_10 rfl (i := 0) rfl ?_
        refine fx_iload_n dX7_numberOf_11 rfl (i := 2) rfl ?_
        refine fn_cV dX7_numberOf_12 lk7_26 fv_c4 rfl (fw_at hp) (C7_exponentsAt T p hp hp1 hp2 G L ts t hP j (by omega)) rfl rfl (by decide) (Nat.le_of_ble_eq_true rfl) ?_
        show fv_At Y7_numberOf 1 0 0 Q 15 [(0, .ref p), (1, .int (nI c)), (2, .int (nI j))] [.int (nI (tx ts j))] (fw T G L) none 0 0
        refine fx_iload_n dX7_numberOf_15 rfl (i := 1) rfl ?_
        refine fn_icmp_ne (tgt := 25) dX7_numberOf_16 (by decide) (by have := (hP.2.2.2 j (by omega)).2.2; omega) (by omega) (fun c16 => ?_) (fun c16 => ?_)
        · skip
          refine fn_iinc (c := 1) (lv2 := [(0, .ref p), (1, .int (nI c)), (2, .int (nI (j + 1)))]) dX7_numberOf_25 (by decide) rfl (by decide) rfl ?_
          refine fx_goto (tgt := 2) dX7_numberOf_28 (by decide) ?_
          exact (ih2 (j + 1) (by omega) (by rw [← hR, drD (show j < ts.length by omega), nofL, if_neg (by omega)]))
        · skip
          refine fx_aload_n dX7_numberOf_19 rfl (i := 0) rfl ?_
          refine fx_iload_n dX7_numberOf_20 rfl (i := 2) rfl ?_
          refine fn_cV dX7_numberOf_21 lk7_30 fv_c4 rfl (fw_at hp) (C7_numberAt T p hp hp1 hp2 G L ts t hP j (by omega)) rfl rfl (by decide) (Nat.le_of_ble_eq_true rfl) ?_
          show fv_At Y7_numberOf 1 0 0 Q 24 [(0, .ref p), (1, .int (nI c)), (2, .int (nI j))] [.int (tn ts j)] (fw T G L) none 0 0
          exact fx_iret dX7_numberOf_24 rfl rfl rfl (by rw [hQ]; exact ⟨by rw [← hR, drD (show j < ts.length by omega), nofL, if_pos (by omega)], rfl, rfl⟩)
  exact (L2 ts.length 0 (by omega) rfl)

set_option maxRecDepth 4000 in
set_option maxHeartbeats 1000000 in
theorem C7_exponentAt (T : fw_T) (p : Nat) (hp : T p = some (3, 4, 4, [some (p + 1), some (p + 2), none, none])) (hp1 : T (p + 1) = some (0, 0, 600, [])) (hp2 : T (p + 2) = some (0, 0, 600, [])) (G : Nat → Nat → Int32) (L : Nat → Nat → Int64) (ts : tms) (t : Bool) (hP : pat G p ts t) (j l : Nat) (hj : j < ts.length) (hl : l ≤ 5) : fv_M Y7_exponentAt 1 0 0 [.ref p, .int (nI j), .int (nI l)] (fw T G L) none (fv_eq (some (.int (nI (fat (tx ts j) (5 - l))))) (fw T G L)) := by
  refine fv_enter rfl (Nat.le_of_ble_eq_true rfl) ?_
  obtain ⟨Q, hQ⟩ : ∃ Q : Option Value → fv_F → Option Nat → Prop, Q = (fv_eq (some (.int (nI (fat (tx ts j) (5 - l))))) (fw T G L)) := ⟨_, rfl⟩
  rw [← hQ]
  show fv_At Y7_exponentAt 1 0 0 Q 0 [(0, .ref p), (1, .int (nI j)), (2, .int (nI l))] [] (fw T G L) none 0 0
  refine fx_aload_n dX7_exponentAt_0 rfl (i := 0) rfl ?_
  refine fx_iload_n dX7_exponentAt_1 rfl (i := 1) rfl ?_
  refine fn_cV dX7_exponentAt_2 lk7_26 fv_c4 rfl (fw_at hp) (C7_exponentsAt T p hp hp1 hp2 G L ts t hP j (by omega)) rfl rfl (by decide) (Nat.le_of_ble_eq_true rfl) ?_
  show fv_At Y7_exponentAt 1 0 0 Q 5 [(0, .ref p), (1, .int (nI j)), (2, .int (nI l))] [.int (nI (tx ts j))] (fw T G L) none 0 0
  refine fx_iconst (v := (nI 5)) dX7_exponentAt_5 (by decide) ?_
  refine fx_iload_n dX7_exponentAt_6 rfl (i := 2) rfl ?_
  refine fn_isub dX7_exponentAt_7 (by omega) ?_
  have h5 := (hP.2.2.2 j hj).2.2
  refine fn_cS dX7_exponentAt_8 lk7_33 (C3_at (a := tx ts j) (k := 5 - l) (by omega) (by omega) (f := (fw T G L))) rfl rfl (by decide) (Nat.le_of_ble_eq_true rfl) ?_
  show fv_At Y7_exponentAt 1 0 0 Q 11 [(0, .ref p), (1, .int (nI j)), (2, .int (nI l))] [.int (nI (fat (tx ts j) (5 - l)))] (fw T G L) none 0 0
  exact fx_iret dX7_exponentAt_11 rfl rfl rfl (by rw [hQ]; exact ⟨rfl, rfl, rfl⟩)

set_option maxRecDepth 4000 in
set_option maxHeartbeats 1000000 in
theorem C7_topExponent (T : fw_T) (p : Nat) (hp : T p = some (3, 4, 4, [some (p + 1), some (p + 2), none, none])) (hp1 : T (p + 1) = some (0, 0, 600, [])) (hp2 : T (p + 2) = some (0, 0, 600, [])) (G : Nat → Nat → Int32) (L : Nat → Nat → Int64) (ts : tms) (t : Bool) (hP : pat G p ts t) (l : Nat) (hl : l ≤ 5) : fv_M Y7_topExponent 2 0 0 [.ref p, .int (nI l)] (fw T G L) none (fv_eq (some (.int (nI (tpl l ts 0)))) (fw T G L)) := by
  refine fv_enter rfl (Nat.le_of_ble_eq_true rfl) ?_
  obtain ⟨Q, hQ⟩ : ∃ Q : Option Value → fv_F → Option Nat → Prop, Q = (fv_eq (some (.int (nI (tpl l ts 0)))) (fw T G L)) := ⟨_, rfl⟩
  rw [← hQ]
  show fv_At Y7_topExponent 2 0 0 Q 0 [(0, .ref p), (1, .int (nI l))] [] (fw T G L) none 0 0
  have h6 := hP.1
  refine fx_iconst (v := (nI 0)) dX7_topExponent_0 (by decide) ?_
  refine fx_istore_n (lv2 := [(0, .ref p), (1, .int (nI l)), (2, .int (nI 0))]) dX7_topExponent_1 (i := 2) rfl (by decide) rfl ?_
  refine fx_iconst (v := (nI 0)) dX7_topExponent_2 (by decide) ?_
  refine fx_istore_n (lv2 := [(0, .ref p), (1, .int (nI l)), (2, .int (nI 0)), (3, .int (nI 0))]) dX7_topExponent_3 (i := 3) rfl (by decide) rfl ?_
  have L4 : ∀ (k : Nat) (m : Nat) (j : Nat), (j + k = ts.length) → (m < 10) → (tpl l (ts.drop j) m = tpl l ts 0) → fv_At Y7_topExponent 2 0 0 Q 4 [(0, .ref p), (1, .int (nI l)), (2, .int (nI m)), (3, .int (nI j))] [] (fw T G L) none 0 0 := by
    intro k
    induction k with
    | zero =>
      intro m j hj hm hR
      refine fx_iload_n dX7_topExponent_4 rfl (i := 3) rfl ?_
      refine fx_aload_n dX7_topExponent_5 rfl (i := 0) rfl ?_
      refine fw_geti dX7_topExponent_6 fd7_18 hp rfl ?_
      refine fn_to (show _ = (nI ts.length) from hP.2.1) ?_
      refine fn_icmp_ge (tgt := 29) dX7_topExponent_9 (by decide) (by omega) (by omega) (fun c9 => ?_) (fun c9 => ?_)
      · skip
        refine fx_iload_n dX7_topExponent_29 rfl (i := 2) rfl ?_
        exact fx_iret dX7_topExponent_30 rfl rfl rfl (by rw [hQ]; exact ⟨by rw [← hR, List.drop_eq_nil_of_le (by omega)]; rfl, rfl, rfl⟩)
      · exfalso; omega
    | succ k ih4 =>
      intro m j hj hm hR
      refine fx_iload_n dX7_topExponent_4 rfl (i := 3) rfl ?_
      refine fx_aload_n dX7_topExponent_5 rfl (i := 0) rfl ?_
      refine fw_geti dX7_topExponent_6 fd7_18 hp rfl ?_
      refine fn_to (show _ = (nI ts.length) from hP.2.1) ?_
      refine fn_icmp_ge (tgt := 29) dX7_topExponent_9 (by decide) (by omega) (by omega) (fun c9 => ?_) (fun c9 => ?_)
      · exfalso; omega
      · skip
        refine fx_iload_n dX7_topExponent_12 rfl (i := 2) rfl ?_
        refine fx_aload_n dX7_topExponent_13 rfl (i := 0) rfl ?_
        refine fx_iload_n dX7_topExponent_14 rfl (i := 3) rfl ?_
        refine fx_iload_n dX7_topExponent_15 rfl (i := 1) rfl ?_
        refine fn_cV dX7_topExponent_16 lk7_39 fv_c4 rfl (fw_at hp) (C7_exponentAt T p hp hp1 hp2 G L ts t hP j l (by omega) (by omega)) rfl rfl (by decide) (Nat.le_of_ble_eq_true rfl) ?_
        show fv_At Y7_topExponent 2 0 0 Q 19 [(0, .ref p), (1, .int (nI l)), (2, .int (nI m)), (3, .int (nI j))] [.int (nI (fat (tx ts j) (5 - l))), .int (nI m)] (fw T G L) none 0 0
        refine fx_mmax dX7_topExponent_19 lk7_42 (by omega) (Nat.lt_trans (fat_lt _ _) (by decide)) (by decide) (Nat.le_of_ble_eq_true rfl) ?_
        refine fx_istore_n (lv2 := [(0, .ref p), (1, .int (nI l)), (2, .int (nI (max m (fat (tx ts j) (5 - l))))), (3, .int (nI j))]) dX7_topExponent_22 (i := 2) rfl (by decide) rfl ?_
        refine fn_iinc (c := 1) (lv2 := [(0, .ref p), (1, .int (nI l)), (2, .int (nI (max m (fat (tx ts j) (5 - l))))), (3, .int (nI (j + 1)))]) dX7_topExponent_23 (by decide) rfl (by decide) rfl ?_
        refine fx_goto (tgt := 4) dX7_topExponent_26 (by decide) ?_
        exact (ih4 (max m (fat (tx ts j) (5 - l))) (j + 1) (by omega) (by have := fat_lt (tx ts j) (5 - l); omega) (by rw [← hR, drD (show j < ts.length by omega), tpl]))
  exact (L4 ts.length 0 0 (by omega) (by omega) rfl)

set_option maxRecDepth 4000 in
set_option maxHeartbeats 1000000 in
theorem C7_isLike (T : fw_T) (p : Nat) (hp : T p = some (3, 4, 4, [some (p + 1), some (p + 2), none, none])) (hp1 : T (p + 1) = some (0, 0, 600, [])) (hp2 : T (p + 2) = some (0, 0, 600, [])) (p2 : Nat) (hq : T p2 = some (3, 4, 4, [some (p2 + 1), some (p2 + 2), none, none])) (hq1 : T (p2 + 1) = some (0, 0, 600, [])) (hq2 : T (p2 + 2) = some (0, 0, 600, [])) (G : Nat → Nat → Int32) (L : Nat → Nat → Int64) (ts : tms) (t : Bool) (hP : pat G p ts t) (us : tms) (u : Bool) (hU : pat G p2 us u) : fv_M Y7_isLike 1 0 0 [.ref p, .ref p2] (fw T G L) none (fv_eq (some (.int (bI (decide (ts = us))))) (fw T G L)) := by
  refine fv_enter rfl (Nat.le_of_ble_eq_true rfl) ?_
  obtain ⟨Q, hQ⟩ : ∃ Q : Option Value → fv_F → Option Nat → Prop, Q = (fv_eq (some (.int (bI (decide (ts = us))))) (fw T G L)) := ⟨_, rfl⟩
  rw [← hQ]
  show fv_At Y7_isLike 1 0 0 Q 0 [(0, .ref p), (1, .ref p2)] [] (fw T G L) none 0 0
  have h6 := hP.1
  have h7 := hU.1
  refine fx_aload_n dX7_isLike_0 rfl (i := 0) rfl ?_
  refine fw_geti dX7_isLike_1 fd7_18 hp rfl ?_
  refine fn_to (show _ = (nI ts.length) from hP.2.1) ?_
  refine fx_aload_n dX7_isLike_4 rfl (i := 1) rfl ?_
  refine fw_geti dX7_isLike_5 fd7_18 hq rfl ?_
  refine fn_to (show _ = (nI us.length) from hU.2.1) ?_
  refine fn_icmp_eq (tgt := 13) dX7_isLike_8 (by decide) (by omega) (by omega) (fun c8 => ?_) (fun c8 => ?_)
  · skip
    refine fx_iconst (v := (nI 0)) dX7_isLike_13 (by decide) ?_
    refine fx_istore_n (lv2 := [(0, .ref p), (1, .ref p2), (2, .int (nI 0))]) dX7_isLike_14 (i := 2) rfl (by decide) rfl ?_
    have L15 : ∀ (k : Nat) (j : Nat), (j + k = ts.length) → (decide (ts.drop j = us.drop j) = decide (ts = us)) → fv_At Y7_isLike 1 0 0 Q 15 [(0, .ref p), (1, .ref p2), (2, .int (nI j))] [] (fw T G L) none 0 0 := by
      intro k
      induction k with
      | zero =>
        intro j hj hR
        refine fx_iload_n dX7_isLike_15 rfl (i := 2) rfl ?_
        refine fx_aload_n dX7_isLike_16 rfl (i := 0) rfl ?_
        refine fw_geti dX7_isLike_17 fd7_18 hp rfl ?_
        refine fn_to (show _ = (nI ts.length) from hP.2.1) ?_
        refine fn_icmp_ge (tgt := 57) dX7_isLike_20 (by decide) (by omega) (by omega) (fun c20 => ?_) (fun c20 => ?_)
        · skip
          refine fx_iconst (v := (nI 1)) dX7_isLike_57 (by decide) ?_
          refine fn_to (show _ = (bI true) from rfl) ?_
          exact fx_zret dX7_isLike_58 rfl (bI_01 _) rfl rfl (by rw [hQ]; exact ⟨by rw [← hR, List.drop_eq_nil_of_le (by omega), List.drop_eq_nil_of_le (by omega)]; rfl, rfl, rfl⟩)
        · exfalso; omega
      | succ k ih15 =>
        intro j hj hR
        refine fx_iload_n dX7_isLike_15 rfl (i := 2) rfl ?_
        refine fx_aload_n dX7_isLike_16 rfl (i := 0) rfl ?_
        refine fw_geti dX7_isLike_17 fd7_18 hp rfl ?_
        refine fn_to (show _ = (nI ts.length) from hP.2.1) ?_
        refine fn_icmp_ge (tgt := 57) dX7_isLike_20 (by decide) (by omega) (by omega) (fun c20 => ?_) (fun c20 => ?_)
        · exfalso; omega
        · skip
          refine fx_aload_n dX7_isLike_23 rfl (i := 0) rfl ?_
          refine fx_iload_n dX7_isLike_24 rfl (i := 2) rfl ?_
          refine fn_cV dX7_isLike_25 lk7_26 fv_c4 rfl (fw_at hp) (C7_exponentsAt T p hp hp1 hp2 G L ts t hP j (by omega)) rfl rfl (by decide) (Nat.le_of_ble_eq_true rfl) ?_
          show fv_At Y7_isLike 1 0 0 Q 28 [(0, .ref p), (1, .ref p2), (2, .int (nI j))] [.int (nI (tx ts j))] (fw T G L) none 0 0
          refine fx_aload_n dX7_isLike_28 rfl (i := 1) rfl ?_
          refine fx_iload_n dX7_isLike_29 rfl (i := 2) rfl ?_
          refine fn_cV dX7_isLike_30 lk7_26 fv_c4 rfl (fw_at hq) (C7_exponentsAt T p2 hq hq1 hq2 G L us u hU j (by omega)) rfl rfl (by decide) (Nat.le_of_ble_eq_true rfl) ?_
          show fv_At Y7_isLike 1 0 0 Q 33 [(0, .ref p), (1, .ref p2), (2, .int (nI j))] [.int (nI (tx us j)), .int (nI (tx ts j))] (fw T G L) none 0 0
          refine fn_icmp_ne (tgt := 49) dX7_isLike_33 (by decide) (by have := (hP.2.2.2 j (by omega)).2.2; omega) (by have := (hU.2.2.2 j (by omega)).2.2; omega) (fun c33 => ?_) (fun c33 => ?_)
          · skip
            refine fx_iconst (v := (nI 0)) dX7_isLike_49 (by decide) ?_
            refine fn_to (show _ = (bI false) from rfl) ?_
            exact fx_zret dX7_isLike_50 rfl (bI_01 _) rfl rfl (by rw [hQ]; exact ⟨by rw [← hR, drD (show j < ts.length by omega), drD (show j < us.length by omega)]; simp_all, rfl, rfl⟩)
          · skip
            refine fx_aload_n dX7_isLike_36 rfl (i := 0) rfl ?_
            refine fx_iload_n dX7_isLike_37 rfl (i := 2) rfl ?_
            refine fn_cV dX7_isLike_38 lk7_30 fv_c4 rfl (fw_at hp) (C7_numberAt T p hp hp1 hp2 G L ts t hP j (by omega)) rfl rfl (by decide) (Nat.le_of_ble_eq_true rfl) ?_
            show fv_At Y7_isLike 1 0 0 Q 41 [(0, .ref p), (1, .ref p2), (2, .int (nI j))] [.int (tn ts j)] (fw T G L) none 0 0
            refine fx_aload_n dX7_isLike_41 rfl (i := 1) rfl ?_
            refine fx_iload_n dX7_isLike_42 rfl (i := 2) rfl ?_
            refine fn_cV dX7_isLike_43 lk7_30 fv_c4 rfl (fw_at hq) (C7_numberAt T p2 hq hq1 hq2 G L us u hU j (by omega)) rfl rfl (by decide) (Nat.le_of_ble_eq_true rfl) ?_
            show fv_At Y7_isLike 1 0 0 Q 46 [(0, .ref p), (1, .ref p2), (2, .int (nI j))] [.int (tn us j), .int (tn ts j)] (fw T G L) none 0 0
            refine fx_icmp_eq (tgt := 51) dX7_isLike_46 (by decide) (fun c46 => ?_) (fun c46 => ?_)
            · skip
              refine fn_iinc (c := 1) (lv2 := [(0, .ref p), (1, .ref p2), (2, .int (nI (j + 1)))]) dX7_isLike_51 (by decide) rfl (by decide) rfl ?_
              refine fx_goto (tgt := 15) dX7_isLike_54 (by decide) ?_
              exact (ih15 (j + 1) (by omega) (by rw [← hR, drD (show j < ts.length by omega), drD (show j < us.length by omega), c33, c46]; simp))
            · skip
              refine fx_iconst (v := (nI 0)) dX7_isLike_49 (by decide) ?_
              refine fn_to (show _ = (bI false) from rfl) ?_
              exact fx_zret dX7_isLike_50 rfl (bI_01 _) rfl rfl (by rw [hQ]; exact ⟨by rw [← hR, drD (show j < ts.length by omega), drD (show j < us.length by omega)]; simp_all, rfl, rfl⟩)
    exact (L15 ts.length 0 (by omega) rfl)
  · skip
    refine fx_iconst (v := (nI 0)) dX7_isLike_11 (by decide) ?_
    refine fn_to (show _ = (bI false) from rfl) ?_
    exact fx_zret dX7_isLike_12 rfl (bI_01 _) rfl rfl (by rw [hQ]; exact ⟨by rw [decide_eq_false (fun h => by rw [h] at c8; exact c8 rfl)], rfl, rfl⟩)

set_option maxRecDepth 4000 in
set_option maxHeartbeats 1000000 in
theorem C7_copy (T : fw_T) (p : Nat) (hp : T p = some (3, 4, 4, [some (p + 1), some (p + 2), none, none])) (hp1 : T (p + 1) = some (0, 0, 600, [])) (hp2 : T (p + 2) = some (0, 0, 600, [])) (p2 : Nat) (hq : T p2 = some (3, 4, 4, [some (p2 + 1), some (p2 + 2), none, none])) (hq1 : T (p2 + 1) = some (0, 0, 600, [])) (hq2 : T (p2 + 2) = some (0, 0, 600, [])) (G : Nat → Nat → Int32) (L : Nat → Nat → Int64) (us : tms) (u : Bool) (hU : pat G p2 us u) (hne : p + 3 ≤ p2 ∨ p2 + 3 ≤ p) : fv_M Y7_copy 1 0 0 [.ref p, .ref p2] (fw T G L) none (fv_eq none (fw T (pL G p us true) L)) := by
  refine fv_enter rfl (Nat.le_of_ble_eq_true rfl) ?_
  obtain ⟨Q, hQ⟩ : ∃ Q : Option Value → fv_F → Option Nat → Prop, Q = (fv_eq none (fw T (pL G p us true) L)) := ⟨_, rfl⟩
  rw [← hQ]
  show fv_At Y7_copy 1 0 0 Q 0 [(0, .ref p), (1, .ref p2)] [] (fw T G L) none 0 0
  have h7 := hU.1
  refine fx_aload_n dX7_copy_0 rfl (i := 0) rfl ?_
  refine fn_cV dX7_copy_1 lk7_47 fv_c4 rfl (fw_at hp) (C7_clear T p hp hp1 hp2 G L) rfl rfl (by decide) (Nat.le_of_ble_eq_true rfl) ?_
  show fv_At Y7_copy 1 0 0 Q 4 [(0, .ref p), (1, .ref p2)] [] (fw T (pL G p [] true) L) none 0 0
  refine fx_iconst (v := (nI 0)) dX7_copy_4 (by decide) ?_
  refine fx_istore_n (lv2 := [(0, .ref p), (1, .ref p2), (2, .int (nI 0))]) dX7_copy_5 (i := 2) rfl (by decide) rfl ?_
  have L6 : ∀ (k : Nat) (j : Nat) (G1 : Nat → Nat → Int32), (j + k = us.length) → (G1 = pL G p (us.take j) true) → fv_At Y7_copy 1 0 0 Q 6 [(0, .ref p), (1, .ref p2), (2, .int (nI j))] [] (fw T G1 L) none 0 0 := by
    intro k
    induction k with
    | zero =>
      intro j G1 hj hG
      refine fx_iload_n dX7_copy_6 rfl (i := 2) rfl ?_
      refine fx_aload_n dX7_copy_7 rfl (i := 1) rfl ?_
      have hU1 : pat G1 p2 us u := pat_row hU (by rw [hG, pL_row (by omega) (by omega) (by omega)]) (by rw [hG, pL_row (by omega) (by omega) (by omega)]) (by rw [hG, pL_row (by omega) (by omega) (by omega)])
      refine fw_geti dX7_copy_8 fd7_18 hq rfl ?_
      refine fn_to (show _ = (nI us.length) from hU1.2.1) ?_
      refine fn_icmp_ge (tgt := 34) dX7_copy_11 (by decide) (by omega) (by omega) (fun c11 => ?_) (fun c11 => ?_)
      · skip
        exact fx_vret dX7_copy_34 rfl rfl rfl (by rw [hQ]; exact ⟨rfl, by rw [hG, List.take_of_length_le (by omega)], rfl⟩)
      · exfalso; omega
    | succ k ih6 =>
      intro j G1 hj hG
      refine fx_iload_n dX7_copy_6 rfl (i := 2) rfl ?_
      refine fx_aload_n dX7_copy_7 rfl (i := 1) rfl ?_
      have hU1 : pat G1 p2 us u := pat_row hU (by rw [hG, pL_row (by omega) (by omega) (by omega)]) (by rw [hG, pL_row (by omega) (by omega) (by omega)]) (by rw [hG, pL_row (by omega) (by omega) (by omega)])
      refine fw_geti dX7_copy_8 fd7_18 hq rfl ?_
      refine fn_to (show _ = (nI us.length) from hU1.2.1) ?_
      refine fn_icmp_ge (tgt := 34) dX7_copy_11 (by decide) (by omega) (by omega) (fun c11 => ?_) (fun c11 => ?_)
      · exfalso; omega
      · skip
        refine fx_aload_n dX7_copy_14 rfl (i := 0) rfl ?_
        refine fx_aload_n dX7_copy_15 rfl (i := 1) rfl ?_
        refine fx_iload_n dX7_copy_16 rfl (i := 2) rfl ?_
        refine fn_cV dX7_copy_17 lk7_26 fv_c4 rfl (fw_at hq) (C7_exponentsAt T p2 hq hq1 hq2 G1 L us u hU1 j (by omega)) rfl rfl (by decide) (Nat.le_of_ble_eq_true rfl) ?_
        show fv_At Y7_copy 1 0 0 Q 20 [(0, .ref p), (1, .ref p2), (2, .int (nI j))] [.int (nI (tx us j)), .ref p] (fw T G1 L) none 0 0
        refine fx_aload_n dX7_copy_20 rfl (i := 1) rfl ?_
        refine fx_iload_n dX7_copy_21 rfl (i := 2) rfl ?_
        refine fn_cV dX7_copy_22 lk7_30 fv_c4 rfl (fw_at hq) (C7_numberAt T p2 hq hq1 hq2 G1 L us u hU1 j (by omega)) rfl rfl (by decide) (Nat.le_of_ble_eq_true rfl) ?_
        show fv_At Y7_copy 1 0 0 Q 25 [(0, .ref p), (1, .ref p2), (2, .int (nI j))] [.int (tn us j), .int (nI (tx us j)), .ref p] (fw T G1 L) none 0 0
        have hlen : (us.take j).length = j := by rw [List.length_take]; omega
        have hG1n : G1 p 2 = nI j := by rw [hG]; unfold pL; rw [if_pos ⟨rfl, rfl⟩, hlen]
        have eG : (if j < 600 then fw T (g2 (g2 (g2 G1 (p + 1) j (nI (tx us j))) (p + 2) j (tn us j)) p 2 (nI (j + 1))) L else fw T G1 L) = fw T (pL G p (us.take (j + 1)) true) L := by
          rw [if_pos (by omega), hG, tkD (show j < us.length by omega), ← pL_app, hlen]
        refine fn_cV dX7_copy_25 lk7_50 fv_c4 rfl (fw_at hp) (eG ▸ C7_append T p hp hp1 hp2 G1 L j (tx us j) (tn us j) hG1n (by omega)) rfl rfl (by decide) (Nat.le_of_ble_eq_true rfl) ?_
        show fv_At Y7_copy 1 0 0 Q 28 [(0, .ref p), (1, .ref p2), (2, .int (nI j))] [] (fw T (pL G p (us.take (j + 1)) true) L) none 0 0
        refine fn_iinc (c := 1) (lv2 := [(0, .ref p), (1, .ref p2), (2, .int (nI (j + 1)))]) dX7_copy_28 (by decide) rfl (by decide) rfl ?_
        refine fx_goto (tgt := 6) dX7_copy_31 (by decide) ?_
        exact (ih6 (j + 1) (pL G p (us.take (j + 1)) true) (by omega) rfl)
  exact (L6 us.length 0 (pL G p [] true) (by omega) rfl)

set_option maxRecDepth 4000 in
set_option maxHeartbeats 1000000 in
theorem C7_digestOn (T : fw_T) (p : Nat) (hp : T p = some (3, 4, 4, [some (p + 1), some (p + 2), none, none])) (hp1 : T (p + 1) = some (0, 0, 600, [])) (hp2 : T (p + 2) = some (0, 0, 600, [])) (G : Nat → Nat → Int32) (L : Nat → Nat → Int64) (ts : tms) (t : Bool) (hP : pat G p ts t) (h : Int64) : fv_M Y7_digestOn 1 0 0 [.ref p, .long h] (fw T G L) none (fv_eq (some (.long (dgl ts (31 * h + (nI ts.length).toInt64)))) (fw T G L)) := by
  refine fv_enter rfl (Nat.le_of_ble_eq_true rfl) ?_
  obtain ⟨Q, hQ⟩ : ∃ Q : Option Value → fv_F → Option Nat → Prop, Q = (fv_eq (some (.long (dgl ts (31 * h + (nI ts.length).toInt64)))) (fw T G L)) := ⟨_, rfl⟩
  rw [← hQ]
  show fv_At Y7_digestOn 1 0 0 Q 0 [(0, .ref p), (1, .long h)] [] (fw T G L) none 0 0
  have h6 := hP.1
  refine fx_ldc2 (v := 31) dX7_digestOn_0 kc7_54 ?_
  refine fx_lload_n dX7_digestOn_3 rfl (i := 1) rfl ?_
  refine fx_lmul dX7_digestOn_4 ?_
  refine fx_aload_n dX7_digestOn_5 rfl (i := 0) rfl ?_
  refine fw_geti dX7_digestOn_6 fd7_18 hp rfl ?_
  refine fn_to (show _ = (nI ts.length) from hP.2.1) ?_
  refine fx_i2l dX7_digestOn_9 ?_
  refine fx_ladd dX7_digestOn_10 ?_
  refine fx_lstore_n (lv2 := [(0, .ref p), (1, .long h), (3, .long (((31 * h)) + ((((nI ts.length)).toInt64))))]) dX7_digestOn_11 (i := 3) rfl (by decide) rfl ?_
  refine fx_iconst (v := (nI 0)) dX7_digestOn_12 (by decide) ?_
  refine fx_istore (lv2 := [(0, .ref p), (1, .long h), (3, .long (((31 * h)) + ((((nI ts.length)).toInt64)))), (5, .int (nI 0))]) dX7_digestOn_13 (by decide) rfl ?_
  have L15 : ∀ (k : Nat) (x : Int64) (j : Nat), (j + k = ts.length) → (dgl (ts.drop j) x = dgl ts (31 * h + (nI ts.length).toInt64)) → fv_At Y7_digestOn 1 0 0 Q 15 [(0, .ref p), (1, .long h), (3, .long x), (5, .int (nI j))] [] (fw T G L) none 0 0 := by
    intro k
    induction k with
    | zero =>
      intro x j hj hR
      refine fx_iload dX7_digestOn_15 rfl ?_
      refine fx_aload_n dX7_digestOn_17 rfl (i := 0) rfl ?_
      refine fw_geti dX7_digestOn_18 fd7_18 hp rfl ?_
      refine fn_to (show _ = (nI ts.length) from hP.2.1) ?_
      refine fn_icmp_ge (tgt := 58) dX7_digestOn_21 (by decide) (by omega) (by omega) (fun c21 => ?_) (fun c21 => ?_)
      · skip
        refine fx_lload_n dX7_digestOn_58 rfl (i := 3) rfl ?_
        exact fx_lret dX7_digestOn_59 rfl rfl rfl (by rw [hQ]; exact ⟨by rw [← hR, List.drop_eq_nil_of_le (by omega)]; rfl, rfl, rfl⟩)
      · exfalso; omega
    | succ k ih15 =>
      intro x j hj hR
      refine fx_iload dX7_digestOn_15 rfl ?_
      refine fx_aload_n dX7_digestOn_17 rfl (i := 0) rfl ?_
      refine fw_geti dX7_digestOn_18 fd7_18 hp rfl ?_
      refine fn_to (show _ = (nI ts.length) from hP.2.1) ?_
      refine fn_icmp_ge (tgt := 58) dX7_digestOn_21 (by decide) (by omega) (by omega) (fun c21 => ?_) (fun c21 => ?_)
      · exfalso; omega
      · skip
        refine fx_ldc2 (v := 31) dX7_digestOn_24 kc7_54 ?_
        refine fx_lload_n dX7_digestOn_27 rfl (i := 3) rfl ?_
        refine fx_lmul dX7_digestOn_28 ?_
        refine fx_aload_n dX7_digestOn_29 rfl (i := 0) rfl ?_
        refine fx_iload dX7_digestOn_30 rfl ?_
        refine fn_cV dX7_digestOn_32 lk7_26 fv_c4 rfl (fw_at hp) (C7_exponentsAt T p hp hp1 hp2 G L ts t hP j (by omega)) rfl rfl (by decide) (Nat.le_of_ble_eq_true rfl) ?_
        show fv_At Y7_digestOn 1 0 0 Q 35 [(0, .ref p), (1, .long h), (3, .long x), (5, .int (nI j))] [.int (nI (tx ts j)), .long (31 * x)] (fw T G L) none 0 0
        refine fx_i2l dX7_digestOn_35 ?_
        refine fx_ladd dX7_digestOn_36 ?_
        refine fx_lstore_n (lv2 := [(0, .ref p), (1, .long h), (3, .long (((31 * x)) + ((((nI (tx ts j))).toInt64)))), (5, .int (nI j))]) dX7_digestOn_37 (i := 3) rfl (by decide) rfl ?_
        refine fx_ldc2 (v := 31) dX7_digestOn_38 kc7_54 ?_
        refine fx_lload_n dX7_digestOn_41 rfl (i := 3) rfl ?_
        refine fx_lmul dX7_digestOn_42 ?_
        refine fx_aload_n dX7_digestOn_43 rfl (i := 0) rfl ?_
        refine fx_iload dX7_digestOn_44 rfl ?_
        refine fn_cV dX7_digestOn_46 lk7_30 fv_c4 rfl (fw_at hp) (C7_numberAt T p hp hp1 hp2 G L ts t hP j (by omega)) rfl rfl (by decide) (Nat.le_of_ble_eq_true rfl) ?_
        show fv_At Y7_digestOn 1 0 0 Q 49 [(0, .ref p), (1, .long h), (3, .long (((31 * x)) + ((((nI (tx ts j))).toInt64)))), (5, .int (nI j))] [.int (tn ts j), .long (31 * ((((31 * x)) + ((((nI (tx ts j))).toInt64)))))] (fw T G L) none 0 0
        refine fx_i2l dX7_digestOn_49 ?_
        refine fx_ladd dX7_digestOn_50 ?_
        refine fx_lstore_n (lv2 := [(0, .ref p), (1, .long h), (3, .long (((31 * ((((31 * x)) + ((((nI (tx ts j))).toInt64)))))) + ((((tn ts j)).toInt64)))), (5, .int (nI j))]) dX7_digestOn_51 (i := 3) rfl (by decide) rfl ?_
        refine fn_iinc (c := 1) (lv2 := [(0, .ref p), (1, .long h), (3, .long (((31 * ((((31 * x)) + ((((nI (tx ts j))).toInt64)))))) + ((((tn ts j)).toInt64)))), (5, .int (nI (j + 1)))]) dX7_digestOn_52 (by decide) rfl (by decide) rfl ?_
        refine fx_goto (tgt := 15) dX7_digestOn_55 (by decide) ?_
        exact (ih15 (((31 * ((((31 * x)) + ((((nI (tx ts j))).toInt64)))))) + ((((tn ts j)).toInt64))) (j + 1) (by omega) (by rw [← hR, drD (show j < ts.length by omega), dgl]))
  exact (L15 ts.length (((31 * h)) + ((((nI ts.length)).toInt64))) 0 (by omega) rfl)
