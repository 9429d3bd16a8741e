/-- the terms at the first e places, the last first -/
def dw9 (S : Nat → Int64) : Nat → List (Nat × Int64)
  | 0 => []
  | e + 1 => if S (nex e) ≠ 0 then (nex e, S (nex e)) :: dw9 S e else dw9 S e
theorem dw9_s (S : Nat → Int64) (e : Nat) : dw9 S (e + 1) = if S (nex e) ≠ 0 then (nex e, S (nex e)) :: dw9 S e else dw9 S e := rfl
theorem dw9_len (S : Nat → Int64) : ∀ e, (dw9 S e).length ≤ e
  | 0 => Nat.le_refl _
  | e + 1 => by
    have := dw9_len S e
    rw [dw9_s]
    split
    · rw [List.length_cons]; omega
    · omega
theorem nex_lt {e : Nat} (h : e + 1 < 59049) : nex e < nex (e + 1) := by
  obtain ⟨a1, a2⟩ := nin_nex (show e < 59049 by omega)
  obtain ⟨b1, b2⟩ := nin_nex h
  rcases Nat.lt_trichotomy (nex e) (nex (e + 1)) with q | q | q
  · exact q
  · rw [q, b2] at a2
    omega
  · have := nin_lt b1 a1 q
    omega
theorem dwn_s (S : Nat → Int64) (c : Nat) : dwn S (c + 1) c = if S c ≠ 0 then (c, S c) :: dwn S c (c - 1) else dwn S c (c - 1) := rfl
theorem dwn_e {S : Nat → Int64} (hS : sok S) : ∀ e, e < 59049 → dwn S (nex e) (nex e - 1) = dw9 S e
  | 0, _ => rfl
  | e + 1, h => by
    have ih := dwn_e hS e (by omega)
    have hl := nex_lt h
    obtain ⟨a1, a2⟩ := nin_nex (show e < 59049 by omega)
    obtain ⟨b1, b2⟩ := nin_nex h
    have hb := okc_le b1
    have h1 : dwn S (nex (e + 1)) (nex (e + 1) - 1) = dwn S (nex (e + 1) - nex e - 1) (nex (e + 1) - 1) ++ dwn S (nex e + 1) (nex e) := by
      have q := dwn_app S (nex (e + 1) - nex e - 1) (nex e + 1) (nex (e + 1) - 1)
      rw [show nex (e + 1) - nex e - 1 + (nex e + 1) = nex (e + 1) by omega, show nex (e + 1) - 1 - (nex (e + 1) - nex e - 1) = nex e by omega] at q
      exact q
    have h2 : dwn S (nex (e + 1) - nex e - 1) (nex (e + 1) - 1) = [] := by
      refine dwn_none _ _ (fun j q1 q2 => ?_) (by omega)
      by_cases w : S j = 0
      · exact w
      · have hj := hS j (by omega) w
        have l1 := nin_lt a1 hj (by omega)
        have l2 := nin_lt hj b1 (by omega)
        omega
    rw [h1, h2, List.nil_append, dwn_s, dw9_s, ih]
theorem nex_top : nex 59048 = 88888 := by decide +kernel
theorem dwn_9 {S : Nat → Int64} (hS : sok S) : dwn S 88889 88888 = dw9 S 59049 := by
  have h := dwn_e hS 59048 (by decide)
  have h1 := dwn_s S 88888
  have h2 := dw9_s S 59048
  rw [nex_top] at h h2
  rw [h1, h2, h]
theorem stl_9 {S : Nat → Int64} (hS : sok S) : stl S = (if anB (dw9 S 59049) = true then (-5 : Int) else if 600 < (dw9 S 59049).length then (-6 : Int) else (((dw9 S 59049).length : Nat) : Int)) := by
  unfold stl
  rw [dwn_9 hS]
theorem stl_0 {S : Nat → Int64} (hS : sok S) (h : 0 ≤ stl S) : anB (dw9 S 59049) = false ∧ (dw9 S 59049).length ≤ 600 ∧ stl S = ((dw9 S 59049).length : Nat) := by
  rw [stl_9 hS] at h ⊢
  cases e : anB (dw9 S 59049) with
  | true => rw [e, if_pos rfl] at h; omega
  | false =>
    rw [e, if_neg (by decide)] at h
    by_cases q : 600 < (dw9 S 59049).length
    · rw [if_pos q] at h; omega
    · rw [if_neg (by decide), if_neg q]
      exact ⟨rfl, by omega, rfl⟩
/-- is it too much; 0: it is not -/
def tmu (S : Nat → Int64) : Int := if stl S < 0 then stl S else 0
theorem byd_t (x : Int64) : byd x = decide (x.toInt < -100000000 ∨ 100000000 < x.toInt) := by
  unfold byd
  refine decide_eq_decide.mpr ?_
  rw [Int64.lt_iff_toInt_lt, Int64.lt_iff_toInt_lt]
  rfl
theorem wI (x : Int64) : x = lI x.toInt := (Int64.ofInt_toInt x).symm
theorem toI {x : Int64} (h : byd x = false) : x.toInt32.toInt64 = x ∧ nbd x.toInt32 := by
  rw [byd_t] at h
  have q := of_decide_eq_false h
  have e : x.toInt32.toInt = x.toInt := by
    rw [Int64.toInt_toInt32]
    exact Int.bmod_eq_of_le (by omega) (by omega)
  refine ⟨?_, ?_⟩
  · rw [← Int64.toInt_inj, Int32.toInt_toInt64, e]
  · unfold nbd
    rw [e]
    omega
theorem trm_9 {S : Nat → Int64} (hS : sok S) : trm S = (dw9 S 59049).map (fun q => (q.1, q.2.toInt32)) := by
  unfold trm
  rw [dwn_9 hS]
theorem gdM (l : List (Nat × Int64)) {j : Nat} (h : j < l.length) : tx (l.map (fun q => (q.1, q.2.toInt32))) j = (l.getD j (0, 0)).1 ∧ tn (l.map (fun q => (q.1, q.2.toInt32))) j = (l.getD j (0, 0)).2.toInt32 := by
  unfold tx tn
  rw [List.getD_eq_getElem?_getD, List.getD_eq_getElem?_getD, List.getElem?_map, List.getElem?_eq_getElem h]
  exact ⟨rfl, rfl⟩
theorem gdA_l (l r : List (Nat × Int64)) {j : Nat} (h : j < l.length) : (l ++ r).getD j (0, 0) = l.getD j (0, 0) := by
  rw [List.getD_eq_getElem?_getD, List.getD_eq_getElem?_getD, List.getElem?_append_left h]
theorem gdA_e (l : List (Nat × Int64)) (q : Nat × Int64) : (l ++ [q]).getD l.length (0, 0) = q := by
  rw [List.getD_eq_getElem?_getD, List.getElem?_append_right (Nat.le_refl _), Nat.sub_self]
  rfl
theorem anB_j {l : List (Nat × Int64)} (h : anB l = false) {j : Nat} (hj : j < l.length) : byd (l.getD j (0, 0)).2 = false := by
  rw [List.getD_eq_getElem?_getD, List.getElem?_eq_getElem hj]
  cases e : byd (l[j]).2 with
  | false => exact e
  | true =>
    unfold anB at h
    have q : l.any (fun q => byd q.2) = true := List.any_eq_true.mpr ⟨l[j], List.getElem_mem hj, e⟩
    rw [h] at q
    exact absurd q (by decide)
/-- a sheet comes to be these terms, if the answer is no refusal -/
def sT (T : Nat → tms) (c : Nat) (v : Int) (ts : tms) : Nat → tms := fun s => if s = c ∧ 0 ≤ v then ts else T s
def sB (t : Nat → Bool) (c : Nat) (v : Int) : Nat → Bool := fun s => if s = c ∧ 0 ≤ v then true else t s
theorem trm_ok {S : Nat → Int64} (hS : sok S) (h : 0 ≤ stl S) : pvd (trm S) ∧ (trm S).length ≤ 600 ∧ (trm S).length = (dw9 S 59049).length ∧ stl S = ((trm S).length : Nat) ∧ (∀ j, j < (trm S).length → tx (trm S) j = ((dw9 S 59049).getD j (0, 0)).1 ∧ (tn (trm S) j).toInt64 = ((dw9 S 59049).getD j (0, 0)).2 ∧ nbd (tn (trm S) j)) := by
  obtain ⟨a1, a2, a3⟩ := stl_0 hS h
  have e := trm_9 hS
  have el : (trm S).length = (dw9 S 59049).length := by rw [e, List.length_map]
  refine ⟨pvd_trm hS, by omega, el, by rw [a3, el], fun j hj => ?_⟩
  rw [el] at hj
  obtain ⟨g1, g2⟩ := gdM (dw9 S 59049) hj
  have hb := toI (anB_j a1 hj)
  rw [e, g1, g2]
  exact ⟨rfl, hb.1, hb.2⟩
theorem pvs_s {T : Nat → tms} {t : Nat → Bool} (h : pvs T t) {S : Nat → Int64} (hS : sok S) (c : Nat) : pvs (sT T c (stl S) (trm S)) (sB t c (stl S)) := by
  intro s hs ht
  unfold sT sB at *
  by_cases q : s = c ∧ 0 ≤ stl S
  · rw [if_pos q]
    have w := trm_ok hS q.2
    exact ⟨w.1, fun j hj => (w.2.2.2.2 j hj).2.2⟩
  · rw [if_neg q] at ht ⊢
    exact h s hs ht
theorem pvs_n {T : Nat → tms} {t : Nat → Bool} (h : pvs T t) {v : Int} (hv : v < 0) (ts : tms) (c : Nat) : pvs (sT T c v ts) (sB t c v) := by
  intro s hs ht
  unfold sT sB at *
  rw [if_neg (by omega)] at ht ⊢
  exact h s hs ht
theorem sTB_n {v : Int} (h : v < 0) (T : Nat → tms) (t : Nat → Bool) (c : Nat) (ts : tms) : sT T c v ts = T ∧ sB t c v = t := by
  refine ⟨?_, ?_⟩
  · funext s
    exact if_neg (by omega)
  · funext s
    exact if_neg (by omega)
/-- of the model's cells the order and the polynomials at work may have changed -/
def moff (G G2 : Nat → Nat → Int32) (L L2 : Nat → Nat → Int64) : Prop := (∀ i j, ¬ (i = 0 ∧ j = 1) → (i = 0 ∨ 12 ≤ i) → G2 i j = G i j) ∧ ∀ i, 12 ≤ i → L2 i = L i
/-- an answer of the model's; the sheet c has these terms, or all sheets stay -/
def qms (G : Nat → Nat → Int32) (L : Nat → Nat → Int64) (T : Nat → tms) (t : Nat → Bool) (v : Int) (c : Nat) (ts : tms) : Option Value → fv_F → Option Nat → Prop := fun r2 f2 al2 => ∃ (G2 : Nat → Nat → Int32) (L2 : Nat → Nat → Int64), r2 = some (.int (iI v)) ∧ f2 = fw mT G2 L2 ∧ al2 = none ∧ msh G2 L2 (sT T c v ts) (sB t c v) ∧ moff G G2 L L2
theorem qms_n {G : Nat → Nat → Int32} {L : Nat → Nat → Int64} {T : Nat → tms} {t : Nat → Bool} {G2 : Nat → Nat → Int32} {L2 : Nat → Nat → Int64} (hM : msh G2 L2 T t) (ho : moff G G2 L L2) {v : Int} (hv : v < 0) (c : Nat) (ts : tms) : qms G L T t v c ts (some (.int (iI v))) (fw mT G2 L2) none := by
  obtain ⟨e1, e2⟩ := sTB_n hv T t c ts
  exact ⟨G2, L2, rfl, rfl, rfl, by rw [e1, e2]; exact hM, ho⟩
theorem moff_r {G : Nat → Nat → Int32} {L : Nat → Nat → Int64} : moff G G L L := ⟨fun _ _ _ _ => rfl, fun _ _ => rfl⟩
theorem msh_L {G : Nat → Nat → Int32} {L L2 : Nat → Nat → Int64} {T : Nat → tms} {t : Nat → Bool} (h : msh G L T t) (h6 : L2 6 = L 6) : msh G L2 T t := by
  unfold msh
  rw [h6]
  exact h
theorem lay_ok {G : Nat → Nat → Int32} {L : Nat → Nat → Int64} {T : Nat → tms} {t : Nat → Bool} (hM : msh G L T t) {S : Nat → Int64} (hS : sok S) (hl : 0 ≤ stl S) {s n : Nat} (hs : s < 12) {G1 : Nat → Nat → Int32} {L1 : Nat → Nat → Int64} (hn : n = (dw9 S 59049).length)
    (h1 : ∀ j, j < n → G1 5 (600 * s + j) = nI ((dw9 S 59049).getD j (0, 0)).1 ∧ L1 6 (600 * s + j) = ((dw9 S 59049).getD j (0, 0)).2)
    (h2 : ∀ i j, ¬ (i = 5 ∧ 600 * s ≤ j ∧ j < 600 * s + 600) → G1 i j = G i j) (h3 : ∀ i j, ¬ (i = 6 ∧ 600 * s ≤ j ∧ j < 600 * s + 600) → L1 i j = L i j) : msh (g2 (g2 G1 3 s (bI true)) 4 s (nI n)) L1 (sT T s (stl S) (trm S)) (sB t s (stl S)) := by
  have w := trm_ok hS hl
  intro s2 hs2
  unfold sT sB
  by_cases e : s2 = s
  · rw [if_pos ⟨e, hl⟩, if_pos ⟨e, hl⟩, e]
    refine ⟨by rw [g2_ne _ _ (fun q => absurd q.1 (by decide)), g2_eq], fun _ => ⟨w.2.1, by rw [g2_eq, hn, w.2.2.1], fun j hj => ?_⟩⟩
    obtain ⟨x1, x2, _⟩ := w.2.2.2.2 j hj
    have y := h1 j (by omega)
    rw [g2_ne _ _ (fun q => absurd q.1 (by decide)), g2_ne _ _ (fun q => absurd q.1 (by decide)), x1, x2]
    exact y
  · rw [if_neg (fun q => e q.1), if_neg (fun q => e q.1)]
    obtain ⟨a1, a2⟩ := hM s2 hs2
    refine ⟨by rw [g2_ne _ _ (fun q => absurd q.1 (by decide)), g2_ne _ _ (fun q => e q.2), h2 _ _ (fun q => absurd q.1 (by decide))]; exact a1, fun ht => ?_⟩
    obtain ⟨b1, b2, b3⟩ := a2 ht
    refine ⟨b1, by rw [g2_ne _ _ (fun q => e q.2), g2_ne _ _ (fun q => absurd q.1 (by decide)), h2 _ _ (fun q => absurd q.1 (by decide))]; exact b2, fun j hj => ?_⟩
    rw [g2_ne _ _ (fun q => absurd q.1 (by decide)), g2_ne _ _ (fun q => absurd q.1 (by decide)), h2 _ _ (by omega), h3 _ _ (by omega)]
    exact b3 j hj

set_option maxRecDepth 4000 in
set_option maxHeartbeats 1000000 in
theorem C11_tooMuch  (G : Nat → Nat → Int32) (L : Nat → Nat → Int64) (S : Nat → Int64) (hW : wkd L S) (hS : sok S)  : fv_M Y11_tooMuch 1 0 0 [.ref 0] (fw mT G L) none (fv_eq (some (.int (iI (tmu S)))) (fw mT G L)) := by
  refine fv_enter rfl (Nat.le_of_ble_eq_true rfl) ?_
  obtain ⟨Q, hQ⟩ : ∃ Q : Option Value → fv_F → Option Nat → Prop, Q = (fv_eq (some (.int (iI (tmu S)))) (fw mT G L)) := ⟨_, rfl⟩
  rw [← hQ]
  show fv_At Y11_tooMuch 1 0 0 Q 0 [(0, .ref 0)] [] (fw mT G L) none 0 0
  refine fx_iconst (v := (nI 0)) dX11_tooMuch_0 (by decide) ?_
  refine fx_istore_n (lv2 := [(0, .ref 0), (1, .int (nI 0))]) dX11_tooMuch_1 (i := 1) rfl (by decide) rfl ?_
  refine fx_iconst (v := (nI 0)) dX11_tooMuch_2 (by decide) ?_
  refine fn_to (show _ = (bI false) from rfl) ?_
  refine fx_istore_n (lv2 := [(0, .ref 0), (1, .int (nI 0)), (2, .int (bI false))]) dX11_tooMuch_3 (i := 2) rfl (by decide) rfl ?_
  refine fx_iconst (v := (nI 0)) dX11_tooMuch_4 (by decide) ?_
  refine fx_istore_n (lv2 := [(0, .ref 0), (1, .int (nI 0)), (2, .int (bI false)), (3, .int (nI 0))]) dX11_tooMuch_5 (i := 3) rfl (by decide) rfl ?_
  have L6 : ∀ (k : Nat) (n : Nat) (g : Bool) (e : Nat), (e + k = 59049) → (n = (dw9 S e).length) → (g = anB (dw9 S e)) → fv_At Y11_tooMuch 1 0 0 Q 6 [(0, .ref 0), (1, .int (nI n)), (2, .int (bI g)), (3, .int (nI e))] [] (fw mT G L) none 0 0 := by
    intro k
    induction k with
    | zero =>
      intro n g e he hn hg
      refine fx_iload_n dX11_tooMuch_6 rfl (i := 3) rfl ?_
      refine fx_ldc dX11_tooMuch_7 kc11_30 (fn_to (show _ = (nI 59049) by decide) ?_)
      refine fn_icmp_ge (tgt := 63) dX11_tooMuch_9 (by decide) (by omega) (by omega) (fun c9 => ?_) (fun c9 => ?_)
      · skip
        have hln := dw9_len S e
        refine fx_iload_n dX11_tooMuch_63 rfl (i := 2) rfl ?_
        refine fn_if_eqB (tgt := 72) dX11_tooMuch_64 (by decide) (fun c64 => ?_) (fun c64 => ?_)
        · skip
          refine fx_iload_n dX11_tooMuch_72 rfl (i := 1) rfl ?_
          refine fx_sipush (v := (nI 600)) dX11_tooMuch_73 (by decide) ?_
          refine fn_icmp_le (tgt := 84) dX11_tooMuch_76 (by decide) (by omega) (by omega) (fun c76 => ?_) (fun c76 => ?_)
          · skip
            refine fx_iconst (v := (nI 0)) dX11_tooMuch_84 (by decide) ?_
            exact fx_iret dX11_tooMuch_85 rfl rfl rfl (by rw [hQ]; exact (by obtain rfl : e = 59049 := (by omega); unfold tmu; rw [stl_9 hS, ← hn, ← hg]; first | (rw [c64, if_pos (show true = true from rfl)]; exact ⟨rfl, rfl, rfl⟩) | (rw [c64, if_neg (show ¬ (false = true) by decide)]; first | (rw [if_pos (show 600 < n by omega)]; exact ⟨rfl, rfl, rfl⟩) | (rw [if_neg (show ¬ 600 < n by omega), if_neg (show ¬ ((n : Int) < 0) by omega)]; exact ⟨rfl, rfl, rfl⟩))))
          · skip
            refine fx_bipush (v := (iI (-6))) dX11_tooMuch_79 (by decide) ?_
            refine fx_goto (tgt := 85) dX11_tooMuch_81 (by decide) ?_
            exact fx_iret dX11_tooMuch_85 rfl rfl rfl (by rw [hQ]; exact (by obtain rfl : e = 59049 := (by omega); unfold tmu; rw [stl_9 hS, ← hn, ← hg]; first | (rw [c64, if_pos (show true = true from rfl)]; exact ⟨rfl, rfl, rfl⟩) | (rw [c64, if_neg (show ¬ (false = true) by decide)]; first | (rw [if_pos (show 600 < n by omega)]; exact ⟨rfl, rfl, rfl⟩) | (rw [if_neg (show ¬ 600 < n by omega), if_neg (show ¬ ((n : Int) < 0) by omega)]; exact ⟨rfl, rfl, rfl⟩))))
        · skip
          refine fx_bipush (v := (iI (-5))) dX11_tooMuch_67 (by decide) ?_
          refine fx_goto (tgt := 85) dX11_tooMuch_69 (by decide) ?_
          exact fx_iret dX11_tooMuch_85 rfl rfl rfl (by rw [hQ]; exact (by obtain rfl : e = 59049 := (by omega); unfold tmu; rw [stl_9 hS, ← hn, ← hg]; first | (rw [c64, if_pos (show true = true from rfl)]; exact ⟨rfl, rfl, rfl⟩) | (rw [c64, if_neg (show ¬ (false = true) by decide)]; first | (rw [if_pos (show 600 < n by omega)]; exact ⟨rfl, rfl, rfl⟩) | (rw [if_neg (show ¬ 600 < n by omega), if_neg (show ¬ ((n : Int) < 0) by omega)]; exact ⟨rfl, rfl, rfl⟩))))
      · exfalso; omega
    | succ k ih6 =>
      intro n g e he hn hg
      refine fx_iload_n dX11_tooMuch_6 rfl (i := 3) rfl ?_
      refine fx_ldc dX11_tooMuch_7 kc11_30 (fn_to (show _ = (nI 59049) by decide) ?_)
      refine fn_icmp_ge (tgt := 63) dX11_tooMuch_9 (by decide) (by omega) (by omega) (fun c9 => ?_) (fun c9 => ?_)
      · exfalso; omega
      · skip
        refine fx_iload_n dX11_tooMuch_12 rfl (i := 1) rfl ?_
        refine fx_aload_n dX11_tooMuch_13 rfl (i := 0) rfl ?_
        refine fw_getr dX11_tooMuch_14 fd11_31 rfl rfl ?_
        refine fx_iload_n dX11_tooMuch_17 rfl (i := 3) rfl ?_
        refine fw_lald e dX11_tooMuch_18 rfl rfl (by omega) (by decide) ?_
        refine fn_toL (show _ = (S (nex e)) from (hW e (by omega))) ?_
        refine fx_lconst (v := 0) dX11_tooMuch_19 (by decide) ?_
        refine fx_lcmp dX11_tooMuch_20 ?_
        refine fn_if_eqC (tgt := 28) dX11_tooMuch_21 (by decide) (fun c21 => ?_) (fun c21 => ?_)
        · skip
          refine fx_iconst (v := (nI 0)) dX11_tooMuch_28 (by decide) ?_
          refine fn_iadd dX11_tooMuch_29 ?_
          refine fx_istore_n (lv2 := [(0, .ref 0), (1, .int (nI (n + 0))), (2, .int (bI g)), (3, .int (nI e))]) dX11_tooMuch_30 (i := 1) rfl (by decide) rfl ?_
          refine fx_iload_n dX11_tooMuch_31 rfl (i := 2) rfl ?_
          refine fx_aload_n dX11_tooMuch_32 rfl (i := 0) rfl ?_
          refine fw_getr dX11_tooMuch_33 fd11_31 rfl rfl ?_
          refine fx_iload_n dX11_tooMuch_36 rfl (i := 3) rfl ?_
          refine fw_lald e dX11_tooMuch_37 rfl rfl (by omega) (by decide) ?_
          refine fn_toL (show _ = (lI ((S (nex e)).toInt)) from (by rw [hW e (by omega)]; exact wI _)) ?_
          have hz1 := Int64.le_toInt (S (nex e))
          have hz2 := Int64.toInt_lt (S (nex e))
          refine fx_ldc2 dX11_tooMuch_38 kc11_158 (fn_toL (show _ = lI (-100000000) by decide) ?_)
          refine fx_ldc2 dX11_tooMuch_41 kc11_160 (fn_toL (show _ = lI (100000000) by decide) ?_)
          refine fn_cS dX11_tooMuch_44 lk11_126 (C11_in (v := (S (nex e)).toInt) (a := -100000000) (b := 100000000) (by omega) (by omega) (by omega) (by omega) (by omega) (by omega) (f := (fw mT G L))) rfl rfl (by decide) (Nat.le_of_ble_eq_true rfl) ?_
          show fv_At Y11_tooMuch 1 0 0 Q 47 [(0, .ref 0), (1, .int (nI (n + 0))), (2, .int (bI g)), (3, .int (nI e))] [.int (bI (decide ((-100000000) ≤ ((S (nex e)).toInt) ∧ ((S (nex e)).toInt) ≤ 100000000))), .int (bI g)] (fw mT G L) none 0 0
          refine fn_if_neB (tgt := 54) dX11_tooMuch_47 (by decide) (fun c47 => ?_) (fun c47 => ?_)
          · skip
            refine fx_iconst (v := (nI 0)) dX11_tooMuch_54 (by decide) ?_
            refine fn_to (show _ = (bI false) from rfl) ?_
            refine fx_ior dX11_tooMuch_55 ?_
            refine fn_to (show _ = (bI (g || byd (S (nex e)))) from (by rw [byd_t]; first | (rw [decide_eq_true (by have := of_decide_eq_false c47; omega)]; exact bI_or _ _) | (rw [decide_eq_false (by have := of_decide_eq_true c47; omega)]; exact bI_or _ _))) ?_
            refine fx_istore_n (lv2 := [(0, .ref 0), (1, .int (nI (n + 0))), (2, .int (bI (g || byd (S (nex e))))), (3, .int (nI e))]) dX11_tooMuch_56 (i := 2) rfl (by decide) rfl ?_
            refine fn_iinc (c := 1) (lv2 := [(0, .ref 0), (1, .int (nI (n + 0))), (2, .int (bI (g || byd (S (nex e))))), (3, .int (nI (e + 1)))]) dX11_tooMuch_57 (by decide) rfl (by decide) rfl ?_
            refine fx_goto (tgt := 6) dX11_tooMuch_60 (by decide) ?_
            exact (ih6 (n + 0) (g || byd (S (nex e))) (e + 1) (by omega) (by rw [dw9_s]; first | (rw [if_pos c21, List.length_cons]; omega) | (rw [if_neg (fun q => q c21)]; omega)) (by rw [dw9_s]; first | (rw [if_pos c21, hg]; exact Bool.or_comm _ _) | (rw [if_neg (fun q => q c21), hg, c21, show byd 0 = false by decide]; exact Bool.or_false _)))
          · skip
            refine fx_iconst (v := (nI 1)) dX11_tooMuch_50 (by decide) ?_
            refine fn_to (show _ = (bI true) from rfl) ?_
            refine fx_goto (tgt := 55) dX11_tooMuch_51 (by decide) ?_
            refine fx_ior dX11_tooMuch_55 ?_
            refine fn_to (show _ = (bI (g || byd (S (nex e)))) from (by rw [byd_t]; first | (rw [decide_eq_true (by have := of_decide_eq_false c47; omega)]; exact bI_or _ _) | (rw [decide_eq_false (by have := of_decide_eq_true c47; omega)]; exact bI_or _ _))) ?_
            refine fx_istore_n (lv2 := [(0, .ref 0), (1, .int (nI (n + 0))), (2, .int (bI (g || byd (S (nex e))))), (3, .int (nI e))]) dX11_tooMuch_56 (i := 2) rfl (by decide) rfl ?_
            refine fn_iinc (c := 1) (lv2 := [(0, .ref 0), (1, .int (nI (n + 0))), (2, .int (bI (g || byd (S (nex e))))), (3, .int (nI (e + 1)))]) dX11_tooMuch_57 (by decide) rfl (by decide) rfl ?_
            refine fx_goto (tgt := 6) dX11_tooMuch_60 (by decide) ?_
            exact (ih6 (n + 0) (g || byd (S (nex e))) (e + 1) (by omega) (by rw [dw9_s]; first | (rw [if_pos c21, List.length_cons]; omega) | (rw [if_neg (fun q => q c21)]; omega)) (by rw [dw9_s]; first | (rw [if_pos c21, hg]; exact Bool.or_comm _ _) | (rw [if_neg (fun q => q c21), hg, c21, show byd 0 = false by decide]; exact Bool.or_false _)))
        · skip
          refine fx_iconst (v := (nI 1)) dX11_tooMuch_24 (by decide) ?_
          refine fx_goto (tgt := 29) dX11_tooMuch_25 (by decide) ?_
          refine fn_iadd dX11_tooMuch_29 ?_
          refine fx_istore_n (lv2 := [(0, .ref 0), (1, .int (nI (n + 1))), (2, .int (bI g)), (3, .int (nI e))]) dX11_tooMuch_30 (i := 1) rfl (by decide) rfl ?_
          refine fx_iload_n dX11_tooMuch_31 rfl (i := 2) rfl ?_
          refine fx_aload_n dX11_tooMuch_32 rfl (i := 0) rfl ?_
          refine fw_getr dX11_tooMuch_33 fd11_31 rfl rfl ?_
          refine fx_iload_n dX11_tooMuch_36 rfl (i := 3) rfl ?_
          refine fw_lald e dX11_tooMuch_37 rfl rfl (by omega) (by decide) ?_
          refine fn_toL (show _ = (lI ((S (nex e)).toInt)) from (by rw [hW e (by omega)]; exact wI _)) ?_
          have hz1 := Int64.le_toInt (S (nex e))
          have hz2 := Int64.toInt_lt (S (nex e))
          refine fx_ldc2 dX11_tooMuch_38 kc11_158 (fn_toL (show _ = lI (-100000000) by decide) ?_)
          refine fx_ldc2 dX11_tooMuch_41 kc11_160 (fn_toL (show _ = lI (100000000) by decide) ?_)
          refine fn_cS dX11_tooMuch_44 lk11_126 (C11_in (v := (S (nex e)).toInt) (a := -100000000) (b := 100000000) (by omega) (by omega) (by omega) (by omega) (by omega) (by omega) (f := (fw mT G L))) rfl rfl (by decide) (Nat.le_of_ble_eq_true rfl) ?_
          show fv_At Y11_tooMuch 1 0 0 Q 47 [(0, .ref 0), (1, .int (nI (n + 1))), (2, .int (bI g)), (3, .int (nI e))] [.int (bI (decide ((-100000000) ≤ ((S (nex e)).toInt) ∧ ((S (nex e)).toInt) ≤ 100000000))), .int (bI g)] (fw mT G L) none 0 0
          refine fn_if_neB (tgt := 54) dX11_tooMuch_47 (by decide) (fun c47 => ?_) (fun c47 => ?_)
          · skip
            refine fx_iconst (v := (nI 0)) dX11_tooMuch_54 (by decide) ?_
            refine fn_to (show _ = (bI false) from rfl) ?_
            refine fx_ior dX11_tooMuch_55 ?_
            refine fn_to (show _ = (bI (g || byd (S (nex e)))) from (by rw [byd_t]; first | (rw [decide_eq_true (by have := of_decide_eq_false c47; omega)]; exact bI_or _ _) | (rw [decide_eq_false (by have := of_decide_eq_true c47; omega)]; exact bI_or _ _))) ?_
            refine fx_istore_n (lv2 := [(0, .ref 0), (1, .int (nI (n + 1))), (2, .int (bI (g || byd (S (nex e))))), (3, .int (nI e))]) dX11_tooMuch_56 (i := 2) rfl (by decide) rfl ?_
            refine fn_iinc (c := 1) (lv2 := [(0, .ref 0), (1, .int (nI (n + 1))), (2, .int (bI (g || byd (S (nex e))))), (3, .int (nI (e + 1)))]) dX11_tooMuch_57 (by decide) rfl (by decide) rfl ?_
            refine fx_goto (tgt := 6) dX11_tooMuch_60 (by decide) ?_
            exact (ih6 (n + 1) (g || byd (S (nex e))) (e + 1) (by omega) (by rw [dw9_s]; first | (rw [if_pos c21, List.length_cons]; omega) | (rw [if_neg (fun q => q c21)]; omega)) (by rw [dw9_s]; first | (rw [if_pos c21, hg]; exact Bool.or_comm _ _) | (rw [if_neg (fun q => q c21), hg, c21, show byd 0 = false by decide]; exact Bool.or_false _)))
          · skip
            refine fx_iconst (v := (nI 1)) dX11_tooMuch_50 (by decide) ?_
            refine fn_to (show _ = (bI true) from rfl) ?_
            refine fx_goto (tgt := 55) dX11_tooMuch_51 (by decide) ?_
            refine fx_ior dX11_tooMuch_55 ?_
            refine fn_to (show _ = (bI (g || byd (S (nex e)))) from (by rw [byd_t]; first | (rw [decide_eq_true (by have := of_decide_eq_false c47; omega)]; exact bI_or _ _) | (rw [decide_eq_false (by have := of_decide_eq_true c47; omega)]; exact bI_or _ _))) ?_
            refine fx_istore_n (lv2 := [(0, .ref 0), (1, .int (nI (n + 1))), (2, .int (bI (g || byd (S (nex e))))), (3, .int (nI e))]) dX11_tooMuch_56 (i := 2) rfl (by decide) rfl ?_
            refine fn_iinc (c := 1) (lv2 := [(0, .ref 0), (1, .int (nI (n + 1))), (2, .int (bI (g || byd (S (nex e))))), (3, .int (nI (e + 1)))]) dX11_tooMuch_57 (by decide) rfl (by decide) rfl ?_
            refine fx_goto (tgt := 6) dX11_tooMuch_60 (by decide) ?_
            exact (ih6 (n + 1) (g || byd (S (nex e))) (e + 1) (by omega) (by rw [dw9_s]; first | (rw [if_pos c21, List.length_cons]; omega) | (rw [if_neg (fun q => q c21)]; omega)) (by rw [dw9_s]; first | (rw [if_pos c21, hg]; exact Bool.or_comm _ _) | (rw [if_neg (fun q => q c21), hg, c21, show byd 0 = false by decide]; exact Bool.or_false _)))
  exact (L6 59049 0 false 0 (by omega) rfl rfl)

theorem tmu_b (S : Nat → Int64) : -6 ≤ tmu S ∧ tmu S ≤ 0 := by
  have := stl_b S
  unfold tmu
  split <;> omega

set_option maxRecDepth 4000 in
set_option maxHeartbeats 1000000 in
theorem C11_lays  (G : Nat → Nat → Int32) (L : Nat → Nat → Int64) (T : Nat → tms) (t : Nat → Bool) (hM : msh G L T t) (s : Nat) (hs : s < 12) (S : Nat → Int64) (hW : wkd L S) (hS : sok S) : fv_M Y11_lays 2 0 0 [.ref 0, .int (nI s)] (fw mT G L) none (qms G L T t (stl S) s (trm S)) := by
  refine fv_enter rfl (Nat.le_of_ble_eq_true rfl) ?_
  obtain ⟨Q, hQ⟩ : ∃ Q : Option Value → fv_F → Option Nat → Prop, Q = (qms G L T t (stl S) s (trm S)) := ⟨_, rfl⟩
  rw [← hQ]
  show fv_At Y11_lays 2 0 0 Q 0 [(0, .ref 0), (1, .int (nI s))] [] (fw mT G L) none 0 0
  have htb := tmu_b S
  refine fx_aload_n dX11_lays_0 rfl (i := 0) rfl ?_
  refine fn_cV dX11_lays_1 lk11_162 fv_c8 rfl (fw_at (show mT 0 = some (3, 8, 38, [some 1, none, some 2, some 3, some 4, some 5, some 6, some 7, some 8, some 9, some 10, some 11, some 12, some 13, some 14, some 15, some 16, some 17, some 18, some 19, none, none, none, some 20, some 21, some 22, some 23, none, some 24, some 25, some 26, some 27, some 28, some 29, some 30, some 31, none, some 32]) from rfl)) (C11_tooMuch G L S hW hS) rfl rfl (by decide) (Nat.le_of_ble_eq_true rfl) ?_
  show fv_At Y11_lays 2 0 0 Q 4 [(0, .ref 0), (1, .int (nI s))] [.int (iI (tmu S))] (fw mT G L) none 0 0
  refine fx_istore_n (lv2 := [(0, .ref 0), (1, .int (nI s)), (2, .int (iI (tmu S)))]) dX11_lays_4 (i := 2) rfl (by decide) rfl ?_
  refine fx_iload_n dX11_lays_5 rfl (i := 2) rfl ?_
  refine fn_if_eqZ (tgt := 11) dX11_lays_6 (by decide) (by omega) (by omega) (fun c6 => ?_) (fun c6 => ?_)
  · skip
    have hp0 : 0 ≤ stl S := by unfold tmu at c6; split at c6 <;> omega
    obtain ⟨a1, a2, a3⟩ := stl_0 hS hp0
    refine fx_iconst (v := (nI 0)) dX11_lays_11 (by decide) ?_
    refine fx_istore_n (lv2 := [(0, .ref 0), (1, .int (nI s)), (2, .int (iI (tmu S))), (3, .int (nI 0))]) dX11_lays_12 (i := 3) rfl (by decide) rfl ?_
    refine fx_ldc dX11_lays_13 kc11_165 (fn_to (show _ = (nI 59048) by decide) ?_)
    refine fx_istore (lv2 := [(0, .ref 0), (1, .int (nI s)), (2, .int (iI (tmu S))), (3, .int (nI 0)), (4, .int (nI 59048))]) dX11_lays_15 (by decide) rfl ?_
    have L17 : ∀ (k : Nat) (x : Int) (n : Nat) (ds : List (Nat × Int64)) (G1 : Nat → Nat → Int32) (L1 : Nat → Nat → Int64), (x = (k : Int) - 1 ∧ k ≤ 59049) → (ds ++ dw9 S k = dw9 S 59049) → (n = ds.length) → (∀ j, j < n → G1 5 (600 * s + j) = nI (ds.getD j (0, 0)).1 ∧ L1 6 (600 * s + j) = (ds.getD j (0, 0)).2) → (∀ i j, ¬ (i = 5 ∧ 600 * s ≤ j ∧ j < 600 * s + 600) → G1 i j = G i j) → (∀ i j, ¬ (i = 6 ∧ 600 * s ≤ j ∧ j < 600 * s + 600) → L1 i j = L i j) → fv_At Y11_lays 2 0 0 Q 17 [(0, .ref 0), (1, .int (nI s)), (3, .int (nI n)), (4, .int (iI x))] [] (fw mT G1 L1) none 0 0 := by
      intro k
      induction k with
      | zero =>
        intro x n ds G1 L1 hx hds hn h1 hoG hoL
        refine fx_iload dX11_lays_17 rfl ?_
        refine fn_if_ltZ (tgt := 79) dX11_lays_19 (by decide) (by omega) (by omega) (fun c19 => ?_) (fun c19 => ?_)
        · skip
          refine fx_aload_n dX11_lays_79 rfl (i := 0) rfl ?_
          refine fw_getr dX11_lays_80 fd11_16 rfl rfl ?_
          refine fx_iload_n dX11_lays_83 rfl (i := 1) rfl ?_
          refine fx_iconst (v := (nI 1)) dX11_lays_84 (by decide) ?_
          refine fn_to (show _ = (bI true) from rfl) ?_
          refine fw_zast s dX11_lays_85 (bI_01 _) rfl rfl (by omega) (by decide) ?_
          refine fx_aload_n dX11_lays_86 rfl (i := 0) rfl ?_
          refine fw_getr dX11_lays_87 fd11_20 rfl rfl ?_
          refine fx_iload_n dX11_lays_90 rfl (i := 1) rfl ?_
          refine fx_iload_n dX11_lays_91 rfl (i := 3) rfl ?_
          refine fw_iast s dX11_lays_92 rfl rfl (by omega) (by decide) ?_
          refine fx_iload_n dX11_lays_93 rfl (i := 3) rfl ?_
          exact fx_iret dX11_lays_94 rfl rfl rfl (by rw [hQ]; exact (by have e : ds = dw9 S 59049 := (by rw [← hds]; exact (List.append_nil _).symm); rw [e] at hn h1; exact ⟨_, _, by rw [a3, ← hn]; rfl, rfl, rfl, lay_ok hM hS hp0 hs hn h1 hoG hoL, fun i j q1 q2 => by rw [g2_ne _ _ (by omega), g2_ne _ _ (by omega), hoG _ _ (by omega)], fun i q => by funext j; exact hoL i j (by omega)⟩))
        · exfalso; omega
      | succ k ih17 =>
        intro x n ds G1 L1 hx hds hn h1 hoG hoL
        refine fx_iload dX11_lays_17 rfl ?_
        refine fn_if_ltZ (tgt := 79) dX11_lays_19 (by decide) (by omega) (by omega) (fun c19 => ?_) (fun c19 => ?_)
        · exfalso; omega
        · skip
          obtain rfl : x = (k : Int) := by omega
          show fv_At Y11_lays 2 0 0 Q 22 [(0, .ref 0), (1, .int (nI s)), (3, .int (nI n)), (4, .int (nI k))] [] (fw mT G1 L1) none 0 0
          refine fx_aload_n dX11_lays_22 rfl (i := 0) rfl ?_
          refine fw_getr dX11_lays_23 fd11_31 rfl rfl ?_
          refine fx_iload dX11_lays_26 rfl ?_
          refine fw_lald k dX11_lays_28 rfl rfl (by omega) (by decide) ?_
          refine fn_toL (show _ = (S (nex k)) from (by rw [hoL 7 k (fun q => absurd q.1 (by decide))]; exact hW k (by omega))) ?_
          refine fx_lconst (v := 0) dX11_lays_29 (by decide) ?_
          refine fx_lcmp dX11_lays_30 ?_
          refine fn_if_eqC (tgt := 73) dX11_lays_31 (by decide) (fun c31 => ?_) (fun c31 => ?_)
          · skip
            show fv_At Y11_lays 2 0 0 Q 73 [(0, .ref 0), (1, .int (nI s)), (3, .int (nI n)), (4, .int (iI ((k : Int))))] [] (fw mT G1 L1) none 0 0
            refine fn_iincZ (lv2 := [(0, .ref 0), (1, .int (nI s)), (3, .int (nI n)), (4, .int (iI ((k : Int) + (-1))))]) dX11_lays_73  rfl (by decide) rfl ?_
            refine fx_goto (tgt := 17) dX11_lays_76 (by decide) ?_
            exact (ih17 ((k : Int) + (-1)) n ds G1 L1 (by omega) (by rw [← hds, dw9_s, if_neg (fun q => q c31)]) hn h1 hoG hoL)
          · skip
            have hln : n + (dw9 S (k + 1)).length = (dw9 S 59049).length := by rw [← hds, List.length_append, hn]
            have hun : dw9 S (k + 1) = (nex k, S (nex k)) :: dw9 S k := by rw [dw9_s, if_pos c31]
            rw [hun, List.length_cons] at hln
            refine fx_aload_n dX11_lays_34 rfl (i := 0) rfl ?_
            refine fw_getr dX11_lays_35 fd11_23 rfl rfl ?_
            refine fx_sipush (v := (nI 600)) dX11_lays_38 (by decide) ?_
            refine fx_iload_n dX11_lays_41 rfl (i := 1) rfl ?_
            refine fn_imul dX11_lays_42 ?_
            refine fx_iload_n dX11_lays_43 rfl (i := 3) rfl ?_
            refine fn_iadd dX11_lays_44 ?_
            refine fx_iload dX11_lays_45 rfl ?_
            refine fn_cS dX11_lays_47 lk11_166 (C11_toldOf (e := k) (by omega) (f := (fw mT G1 L1))) rfl rfl (by decide) (Nat.le_of_ble_eq_true rfl) ?_
            show fv_At Y11_lays 2 0 0 Q 50 [(0, .ref 0), (1, .int (nI s)), (3, .int (nI n)), (4, .int (nI k))] [.int (nI (nex k)), .int (nI ((600 * s) + n)), .ref 5] (fw mT G1 L1) none 0 0
            refine fw_iast ((600 * s) + n) dX11_lays_50 rfl rfl (by omega) (by decide) ?_
            refine fx_aload_n dX11_lays_51 rfl (i := 0) rfl ?_
            refine fw_getr dX11_lays_52 fd11_26 rfl rfl ?_
            refine fx_sipush (v := (nI 600)) dX11_lays_55 (by decide) ?_
            refine fx_iload_n dX11_lays_58 rfl (i := 1) rfl ?_
            refine fn_imul dX11_lays_59 ?_
            refine fx_iload_n dX11_lays_60 rfl (i := 3) rfl ?_
            refine fn_iadd dX11_lays_61 ?_
            refine fx_aload_n dX11_lays_62 rfl (i := 0) rfl ?_
            refine fw_getr dX11_lays_63 fd11_31 rfl rfl ?_
            refine fx_iload dX11_lays_66 rfl ?_
            refine fw_lald k dX11_lays_68 rfl rfl (by omega) (by decide) ?_
            refine fn_toL (show _ = (S (nex k)) from (by rw [hoL 7 k (fun q => absurd q.1 (by decide))]; exact hW k (by omega))) ?_
            refine fw_last ((600 * s) + n) dX11_lays_69 rfl rfl (by omega) (by decide) ?_
            refine fn_iinc (c := 1) (lv2 := [(0, .ref 0), (1, .int (nI s)), (3, .int (nI (n + 1))), (4, .int (nI k))]) dX11_lays_70 (by decide) rfl (by decide) rfl ?_
            show fv_At Y11_lays 2 0 0 Q 73 [(0, .ref 0), (1, .int (nI s)), (3, .int (nI (n + 1))), (4, .int (iI ((k : Int))))] [] (fw mT (g2 G1 5 ((600 * s) + n) ((nI (nex k)))) (g2 L1 6 ((600 * s) + n) ((S (nex k))))) none 0 0
            refine fn_iincZ (lv2 := [(0, .ref 0), (1, .int (nI s)), (3, .int (nI (n + 1))), (4, .int (iI ((k : Int) + (-1))))]) dX11_lays_73  rfl (by decide) rfl ?_
            refine fx_goto (tgt := 17) dX11_lays_76 (by decide) ?_
            exact (ih17 ((k : Int) + (-1)) (n + 1) (ds ++ [(nex k, S (nex k))]) (g2 G1 5 ((600 * s) + n) ((nI (nex k)))) (g2 L1 6 ((600 * s) + n) ((S (nex k)))) (by omega) (by rw [← hds, hun, List.append_assoc]; rfl) (by rw [List.length_append, hn]; rfl) (fun j q => by by_cases w : j = n; (rw [w, g2_eq, g2_eq, hn, gdA_e]; exact ⟨rfl, rfl⟩); rw [g2_ne _ _ (by omega), g2_ne _ _ (by omega), gdA_l _ _ (by omega)]; exact h1 j (by omega)) (fun i j q => (g2_ne _ _ (by omega)).trans (hoG i j q)) (fun i j q => (g2_ne _ _ (by omega)).trans (hoL i j q)))
    exact fn_sub [0, 1, 3, 4] rfl (L17 59049 (((59048 : Nat) : Int)) 0 ([]) G L (by omega) (List.nil_append _) rfl (fun j q => absurd q (Nat.not_lt_zero _)) (fun _ _ _ => rfl) (fun _ _ _ => rfl))
  · skip
    refine fx_iload_n dX11_lays_9 rfl (i := 2) rfl ?_
    exact fx_iret dX11_lays_10 rfl rfl rfl (by rw [hQ]; exact (by have hv : stl S < 0 := (by unfold tmu at c6; split at c6 <;> omega); rw [show tmu S = stl S by unfold tmu; rw [if_pos hv]]; exact qms_n hM moff_r hv _ _))
