theorem sok_pal {m : Int64} : ∀ {ts : tms} {S : Nat → Int64}, sok S → pvd ts → sok (pal m ts S)
  | [], _, h, _ => h
  | _ :: r, _, h, hx => sok_pal (ts := r) (sok_ad h (hx 0 (by simp)) _) (fun j hj => hx (j + 1) (by simp; exact hj))

theorem swp_d0 {a4 a3 a2 a1 a0 : Nat} (h4 : a4 ≤ 8) (h3 : a3 ≤ 8) (h2 : a2 ≤ 8) (h1 : a1 ≤ 8) (h0 : a0 ≤ 8) : swp (a4 * 10000 + a3 * 1000 + a2 * 100 + a1 * 10 + a0) 5 0 (0 + 1) = a3 * 10000 + a4 * 1000 + a2 * 100 + a1 * 10 + a0 := by
  obtain ⟨f0, f1, f2, f3, f4⟩ := dig_fat h4 h3 h2 h1 h0
  obtain ⟨x, hx⟩ : ∃ x, x = a4 * 10000 + a3 * 1000 + a2 * 100 + a1 * 10 + a0 := ⟨_, rfl⟩
  rw [← hx] at f0 f1 f2 f3 f4 ⊢
  show (((x : Nat) : Int) + (((fat x 3 : Nat) : Int) - ((fat x 4 : Nat) : Int)) * (10 ^ 4 - 10 ^ 3)).toNat = _
  rw [f3, f4]
  omega
theorem swp_d1 {a4 a3 a2 a1 a0 : Nat} (h4 : a4 ≤ 8) (h3 : a3 ≤ 8) (h2 : a2 ≤ 8) (h1 : a1 ≤ 8) (h0 : a0 ≤ 8) : swp (a4 * 10000 + a3 * 1000 + a2 * 100 + a1 * 10 + a0) 5 1 (1 + 1) = a4 * 10000 + a2 * 1000 + a3 * 100 + a1 * 10 + a0 := by
  obtain ⟨f0, f1, f2, f3, f4⟩ := dig_fat h4 h3 h2 h1 h0
  obtain ⟨x, hx⟩ : ∃ x, x = a4 * 10000 + a3 * 1000 + a2 * 100 + a1 * 10 + a0 := ⟨_, rfl⟩
  rw [← hx] at f0 f1 f2 f3 f4 ⊢
  show (((x : Nat) : Int) + (((fat x 2 : Nat) : Int) - ((fat x 3 : Nat) : Int)) * (10 ^ 3 - 10 ^ 2)).toNat = _
  rw [f2, f3]
  omega
theorem swp_d2 {a4 a3 a2 a1 a0 : Nat} (h4 : a4 ≤ 8) (h3 : a3 ≤ 8) (h2 : a2 ≤ 8) (h1 : a1 ≤ 8) (h0 : a0 ≤ 8) : swp (a4 * 10000 + a3 * 1000 + a2 * 100 + a1 * 10 + a0) 5 2 (2 + 1) = a4 * 10000 + a3 * 1000 + a1 * 100 + a2 * 10 + a0 := by
  obtain ⟨f0, f1, f2, f3, f4⟩ := dig_fat h4 h3 h2 h1 h0
  obtain ⟨x, hx⟩ : ∃ x, x = a4 * 10000 + a3 * 1000 + a2 * 100 + a1 * 10 + a0 := ⟨_, rfl⟩
  rw [← hx] at f0 f1 f2 f3 f4 ⊢
  show (((x : Nat) : Int) + (((fat x 1 : Nat) : Int) - ((fat x 2 : Nat) : Int)) * (10 ^ 2 - 10 ^ 1)).toNat = _
  rw [f1, f2]
  omega
theorem swp_d3 {a4 a3 a2 a1 a0 : Nat} (h4 : a4 ≤ 8) (h3 : a3 ≤ 8) (h2 : a2 ≤ 8) (h1 : a1 ≤ 8) (h0 : a0 ≤ 8) : swp (a4 * 10000 + a3 * 1000 + a2 * 100 + a1 * 10 + a0) 5 3 (3 + 1) = a4 * 10000 + a3 * 1000 + a2 * 100 + a0 * 10 + a1 := by
  obtain ⟨f0, f1, f2, f3, f4⟩ := dig_fat h4 h3 h2 h1 h0
  obtain ⟨x, hx⟩ : ∃ x, x = a4 * 10000 + a3 * 1000 + a2 * 100 + a1 * 10 + a0 := ⟨_, rfl⟩
  rw [← hx] at f0 f1 f2 f3 f4 ⊢
  show (((x : Nat) : Int) + (((fat x 0 : Nat) : Int) - ((fat x 1 : Nat) : Int)) * (10 ^ 1 - 10 ^ 0)).toNat = _
  rw [f0, f1]
  omega
theorem okc_swp {x i : Nat} (h : okc x) (hi : i < 4) : okc (swp x 5 i (i + 1)) := by
  obtain ⟨a4, a3, a2, a1, a0, b4, b3, b2, b1, b0, hx⟩ := okc_dig h
  rw [hx]
  have hh : i = 0 ∨ i = 1 ∨ i = 2 ∨ i = 3 := by omega
  rcases hh with rfl | rfl | rfl | rfl
  · rw [swp_d0 b4 b3 b2 b1 b0]; exact okc_of b3 b4 b2 b1 b0
  · rw [swp_d1 b4 b3 b2 b1 b0]; exact okc_of b4 b2 b3 b1 b0
  · rw [swp_d2 b4 b3 b2 b1 b0]; exact okc_of b4 b3 b1 b2 b0
  · rw [swp_d3 b4 b3 b2 b1 b0]; exact okc_of b4 b3 b2 b0 b1
theorem sok_psw {i : Nat} (hi : i < 4) : ∀ {ts : tms} {S : Nat → Int64}, sok S → pvd ts → sok (psw i ts S)
  | [], _, h, _ => h
  | _ :: r, _, h, hx => sok_psw hi (ts := r) (sok_ad h (okc_swp (hx 0 (by simp)) hi) _) (fun j hj => hx (j + 1) (by simp; exact hj))
/-- of the class's cells the pot, its hands and the sheets may have changed -/
def coff (G G2 : Nat → Nat → Int32) (L L2 : Nat → Nat → Int64) : Prop := (∀ i, (i < 3 ∨ 14 < i) → i < 51 → G2 i = G i) ∧ ∀ i, i ≠ 4 → L2 i = L i
/-- an answer of the class's; the sheet c has these terms, or all sheets stay -/
def qcs (G : Nat → Nat → Int32) (L : Nat → Nat → Int64) (T : Nat → tms) (t : Nat → Bool) (v : Int) (c : Nat) (ts : tms) : Option Value → fv_F → Option Nat → Prop := fun r2 f2 al2 => ∃ (G2 : Nat → Nat → Int32) (L2 : Nat → Nat → Int64), r2 = some (.int (iI v)) ∧ f2 = fw cT G2 L2 ∧ al2 = none ∧ emp G2 L2 ∧ csh G2 (sT T c v ts) (sB t c v) ∧ coff G G2 L L2
def qcl (G : Nat → Nat → Int32) (L : Nat → Nat → Int64) (T : Nat → tms) (t : Nat → Bool) (v : Int64) : Option Value → fv_F → Option Nat → Prop := fun r2 f2 al2 => ∃ (G2 : Nat → Nat → Int32) (L2 : Nat → Nat → Int64), r2 = some (.long v) ∧ f2 = fw cT G2 L2 ∧ al2 = none ∧ emp G2 L2 ∧ csh G2 T t ∧ coff G G2 L L2
theorem coff_r {G : Nat → Nat → Int32} {L : Nat → Nat → Int64} : coff G G L L := ⟨fun _ _ _ => rfl, fun _ _ => rfl⟩
theorem qcs_n {G : Nat → Nat → Int32} {L : Nat → Nat → Int64} {T : Nat → tms} {t : Nat → Bool} (hem : emp G L) (hC : csh G T t) {v : Int} (hv : v < 0) (c : Nat) (ts : tms) : qcs G L T t v c ts (some (.int (iI v))) (fw cT G L) none := by
  obtain ⟨e1, e2⟩ := sTB_n hv T t c ts
  exact ⟨G, L, rfl, rfl, rfl, hem, by rw [e1, e2]; exact hC, coff_r⟩
theorem csh_s {G G2 : Nat → Nat → Int32} {T : Nat → tms} {t : Nat → Bool} (hC : csh G T t) {c : Nat} {v : Int} {ts : tms} (h1 : ∀ i, 51 ≤ i → i ≠ 51 + 3 * c → i ≠ 51 + 3 * c + 1 → i ≠ 51 + 3 * c + 2 → G2 i = G i) (h2 : v < 0 → ∀ i, 51 ≤ i → G2 i = G i) (h3 : 0 ≤ v → pat G2 (51 + 3 * c) ts true) : csh G2 (sT T c v ts) (sB t c v) := by
  intro s hs
  unfold sT sB
  by_cases e : s = c ∧ 0 ≤ v
  · rw [if_pos e, if_pos e, e.1]
    exact h3 e.2
  · rw [if_neg e, if_neg e]
    by_cases q : v < 0
    · exact pat_row (hC s hs) (h2 q _ (by omega)) (h2 q _ (by omega)) (h2 q _ (by omega))
    · exact pat_row (hC s hs) (h1 _ (by omega) (by omega) (by omega) (by omega)) (h1 _ (by omega) (by omega) (by omega) (by omega)) (h1 _ (by omega) (by omega) (by omega) (by omega))
theorem qcs_of {G : Nat → Nat → Int32} {L : Nat → Nat → Int64} {T : Nat → tms} {t : Nat → Bool} (hC : csh G T t) {c : Nat} {v : Int} {ts : tms} {r : Option Value} {f : fv_F} {al : Option Nat} (h : qop G L (51 + 3 * c) v ts r f al) : qcs G L T t v c ts r f al := by
  obtain ⟨G2, L2, h1, h2, h3, h4, h5, h6, h7, h8⟩ := h
  refine ⟨G2, L2, h1, h2, h3, h4, csh_s hC (fun i a b c d => h6 i (by omega) (by omega) (by omega) (by omega) (by omega) b c d) (fun q i a => h7 q i (by omega) (by omega) (by omega) (by omega) (by omega)) h8, fun i a b => h6 i (by omega) (by omega) (by omega) (by omega) (by omega) (by omega) (by omega) (by omega), h5⟩
theorem qcs_oc {G : Nat → Nat → Int32} {L : Nat → Nat → Int64} {T : Nat → tms} {t : Nat → Bool} (hC : csh G T t) {c : Nat} {ts : tms} {r : Option Value} {f : fv_F} {al : Option Nat} (h : qcp G L (51 + 3 * c) ts r f al) : qcs G L T t ((ts.length : Nat) : Int) c ts r f al := by
  obtain ⟨G2, L2, h1, h2, h3, h4, h5, h6, h7, h8⟩ := h
  refine ⟨G2, L2, h1, h2, h3, h4, csh_s hC (fun i a b c d => h6 i (by omega) (by omega) (by omega) (by omega) (by omega) b c d) (fun q i a => absurd q (by omega)) (fun _ => h7), fun i a b => h6 i (by omega) (by omega) (by omega) (by omega) (by omega) (by omega) (by omega) (by omega), h5⟩
theorem csh_k {G G2 : Nat → Nat → Int32} {T : Nat → tms} {t : Nat → Bool} (hC : csh G T t) (h1 : ∀ i, 51 ≤ i → G2 i = G i) : csh G2 T t := fun s hs => pat_row (hC s hs) (h1 _ (by omega)) (h1 _ (by omega)) (h1 _ (by omega))
theorem qcl_p {G : Nat → Nat → Int32} {L : Nat → Nat → Int64} {T : Nat → tms} {t : Nat → Bool} (hC : csh G T t) {v : Int64} {r : Option Value} {f : fv_F} {al : Option Nat} (h : qlp G L v r f al) : qcl G L T t v r f al := by
  obtain ⟨G2, L2, h1, h2, h3, h4, h5, h6⟩ := h
  exact ⟨G2, L2, h1, h2, h3, h4, csh_k hC (fun i a => h6 i (by omega) (by omega) (by omega) (by omega) (by omega) (by omega) (by omega) (by omega)), fun i a b => h6 i (by omega) (by omega) (by omega) (by omega) (by omega) (by omega) (by omega) (by omega), h5⟩
theorem qcl_r {G : Nat → Nat → Int32} {L : Nat → Nat → Int64} {T : Nat → tms} {t : Nat → Bool} (hC : csh G T t) {v : Int64} {r : Option Value} {f : fv_F} {al : Option Nat} (h : qlr G L v r f al) : qcl G L T t v r f al := by
  obtain ⟨G2, L2, h1, h2, h3, h4, h5, h6⟩ := h
  exact ⟨G2, L2, h1, h2, h3, h4, csh_k hC (fun i a => h6 i (by omega) (by omega) (by omega) (by omega) (by omega) (by omega) (by omega) (by omega) (by omega) (by omega) (by omega)), fun i a b => h6 i (by omega) (by omega) (by omega) (by omega) (by omega) (by omega) (by omega) (by omega) (by omega) (by omega) (by omega), h5⟩
theorem qcl_n {G : Nat → Nat → Int32} {L : Nat → Nat → Int64} {T : Nat → tms} {t : Nat → Bool} (hem : emp G L) (hC : csh G T t) (v : Int64) : qcl G L T t v (some (.long v)) (fw cT G L) none := ⟨G, L, rfl, rfl, rfl, hem, hC, coff_r⟩
/-- the sums that the calls come to, and what is answered -/
def uAdd (T : Nat → tms) (s c : Int) (x : Int64) : Nat → Int64 := adS (pal 1 (T s.toNat) zS) c.toNat x
def xAdd (T : Nat → tms) (t : Nat → Bool) (s : Int) (x : Int64) (c : Int) : Int := if isSt s = true ∧ byd x = false ∧ okB c = true then (if t s.toNat = true then stl (uAdd T s c x) else -3) else -2
def uSum (T : Nat → tms) (a b m : Int) : Nat → Int64 := pal (iI m).toInt64 (T b.toNat) (pal 1 (T a.toNat) zS)
def xSum (T : Nat → tms) (t : Nat → Bool) (c a b m : Int) : Int := if isSt c = true ∧ isSt a = true ∧ isSt b = true ∧ -1000000 ≤ m ∧ m ≤ 1000000 then (if t a.toNat = true ∧ t b.toNat = true then stl (uSum T a b m) else -3) else -2
def uPro (T : Nat → tms) (a b : Int) : Nat → Int64 := pml (T b.toNat) (T a.toNat) zS
def xPro (T : Nat → tms) (t : Nat → Bool) (c a b : Int) : Int := if isSt c = true ∧ isSt a = true ∧ isSt b = true then (if t a.toNat = true ∧ t b.toNat = true then (if thi (T a.toNat) (T b.toNat) = true then -4 else stl (uPro T a b)) else -3) else -2
def uTur (T : Nat → tms) (a i : Int) : Nat → Int64 := psw (i.toNat - 1) (T a.toNat) zS
def xTur (T : Nat → tms) (t : Nat → Bool) (c a i : Int) : Int := if isSt c = true ∧ isSt a = true ∧ 1 ≤ i ∧ i < 5 then (if t a.toNat = true then stl (uTur T a i) else -3) else -2
def uDif (T : Nat → tms) (a i : Int) : Nat → Int64 := pdf (i.toNat - 1) (T a.toNat) zS
def xDif (T : Nat → tms) (t : Nat → Bool) (c a i : Int) : Int := if isSt c = true ∧ isSt a = true ∧ 1 ≤ i ∧ i < 5 then (if t a.toNat = true then stl (uDif T a i) else -3) else -2
def uPol (o : Int) : tms := cpo (figs o) o.toNat
def xPol (c o : Int) : Int := if isSt c = true ∧ figs o ≠ 0 then ((uPol o).length : Nat) else -2
def xPar (T : Nat → tms) (t : Nat → Bool) (a o : Int) : Int64 := if isSt a = true ∧ figs o ≠ 0 then (if t a.toNat = true then pfq (figs o) 10 o.toNat (T a.toNat) else rfs (-3)) else rfs (-2)
def xCon (u v w : Int) : Int64 := if figs u ≠ 0 ∧ figs v ≠ 0 ∧ figs w ≠ 0 then ppr u.toNat v.toNat w.toNat else rfs (-2)
def xSam (T : Nat → tms) (t : Nat → Bool) (a b : Int) : Int := if isSt a = true ∧ isSt b = true then (if t a.toNat = true ∧ t b.toNat = true then (if T a.toNat = T b.toNat then 1 else 0) else -3) else -2

set_option maxRecDepth 4000 in
set_option maxHeartbeats 1000000 in
theorem C10_add  (G : Nat → Nat → Int32) (L : Nat → Nat → Int64) (T : Nat → tms) (t : Nat → Bool) (hC : csh G T t) (hV : pvs T t) (hem : emp G L) (s : Int) (x : Int64) (c : Int) (s1 : -2147483648 ≤ s) (s2 : s < 2147483648) (c1 : -2147483648 ≤ c) (c2 : c < 2147483648) : fv_M Y10_add 4 0 0 [.ref 0, .int (iI s), .long x, .int (iI c)] (fw cT G L) none (qcs G L T t (xAdd T t s x c) s.toNat (trm (uAdd T s c x))) := by
  refine fv_enter rfl (Nat.le_of_ble_eq_true rfl) ?_
  obtain ⟨Q, hQ⟩ : ∃ Q : Option Value → fv_F → Option Nat → Prop, Q = (qcs G L T t (xAdd T t s x c) s.toNat (trm (uAdd T s c x))) := ⟨_, rfl⟩
  rw [← hQ]
  show fv_At Y10_add 4 0 0 Q 0 [(0, .ref 0), (1, .int (iI s)), (2, .long x), (4, .int (iI c))] [] (fw cT G L) none 0 0
  refine fx_iload_n dX10_add_0 rfl (i := 1) rfl ?_
  refine fn_cS dX10_add_1 lk10_60 (C10_isSheet (s := s) (by omega) (by omega) (f := (fw cT G L))) rfl rfl (by decide) (Nat.le_of_ble_eq_true rfl) ?_
  show fv_At Y10_add 4 0 0 Q 4 [(0, .ref 0), (1, .int (iI s)), (2, .long x), (4, .int (iI c))] [.int (bI (isSt s))] (fw cT G L) none 0 0
  refine fn_if_eqB (tgt := 22) dX10_add_4 (by decide) (fun c4 => ?_) (fun c4 => ?_)
  · skip
    refine fx_bipush (v := (iI (-2))) dX10_add_22 (by decide) ?_
    exact fx_iret dX10_add_24 rfl rfl rfl (by rw [hQ]; exact (by rw [show xAdd T t s x c = -2 by unfold xAdd; exact if_neg (fun q => by first | omega | simp_all)]; exact qcs_n hem hC (by decide) _ _))
  · skip
    refine fx_lload_n dX10_add_7 rfl (i := 2) rfl ?_
    refine fn_cS dX10_add_8 lk10_77 (C10_isBeyond x (f := (fw cT G L))) rfl rfl (by decide) (Nat.le_of_ble_eq_true rfl) ?_
    show fv_At Y10_add 4 0 0 Q 11 [(0, .ref 0), (1, .int (iI s)), (2, .long x), (4, .int (iI c))] [.int (bI (byd x))] (fw cT G L) none 0 0
    refine fn_if_neB (tgt := 22) dX10_add_11 (by decide) (fun c11 => ?_) (fun c11 => ?_)
    · skip
      refine fx_bipush (v := (iI (-2))) dX10_add_22 (by decide) ?_
      exact fx_iret dX10_add_24 rfl rfl rfl (by rw [hQ]; exact (by rw [show xAdd T t s x c = -2 by unfold xAdd; exact if_neg (fun q => by first | omega | simp_all)]; exact qcs_n hem hC (by decide) _ _))
    · skip
      refine fx_iload dX10_add_14 rfl ?_
      refine fn_cS dX10_add_16 lk10_81 (C10_areExponents (x := c) (by omega) (by omega) (f := (fw cT G L))) rfl rfl (by decide) (Nat.le_of_ble_eq_true rfl) ?_
      show fv_At Y10_add 4 0 0 Q 19 [(0, .ref 0), (1, .int (iI s)), (2, .long x), (4, .int (iI c))] [.int (bI (okB c))] (fw cT G L) none 0 0
      refine fn_if_neB (tgt := 25) dX10_add_19 (by decide) (fun c19 => ?_) (fun c19 => ?_)
      · skip
        have hin : isSt s = true ∧ byd x = false ∧ okB c = true := ⟨c4, c11, c19⟩
        have hs1 := isSt_1 c4
        have hok := okB_1 c19
        have hle := okc_le hok.2
        obtain ⟨s0, rfl⟩ : ∃ z : Nat, s = (z : Int) := ⟨s.toNat, by omega⟩
        obtain ⟨c0, rfl⟩ : ∃ z : Nat, c = (z : Int) := ⟨c.toNat, by omega⟩
        show fv_At Y10_add 4 0 0 Q 25 [(0, .ref 0), (1, .int (nI s0)), (2, .long x), (4, .int (nI c0))] [] (fw cT G L) none 0 0
        refine fx_aload_n dX10_add_25 rfl (i := 0) rfl ?_
        refine fx_iload_n dX10_add_26 rfl (i := 1) rfl ?_
        refine fn_cV dX10_add_27 lk10_67 fv_c7 rfl (fw_at (show cT 0 = some (3, 7, 4, [some 1, some 2, some 15, some 31]) from rfl)) (C10_isLost G L T t hC s0 (by omega)) rfl rfl (by decide) (Nat.le_of_ble_eq_true rfl) ?_
        show fv_At Y10_add 4 0 0 Q 30 [(0, .ref 0), (1, .int (nI s0)), (2, .long x), (4, .int (nI c0))] [.int (bI (!t s0))] (fw cT G L) none 0 0
        refine fn_if_eqB (tgt := 36) dX10_add_30 (by decide) (fun c30 => ?_) (fun c30 => ?_)
        · skip
          have hts0 : t s0 = true := by simpa using c30
          refine fx_aload_n dX10_add_36 rfl (i := 0) rfl ?_
          refine fw_getr dX10_add_37 fd10_18 rfl rfl ?_
          refine fx_aload_n dX10_add_40 rfl (i := 0) rfl ?_
          refine fw_getr dX10_add_41 fd10_11 rfl rfl ?_
          refine fx_iload_n dX10_add_44 rfl (i := 1) rfl ?_
          refine fw_aald (r := 51 + 3 * s0) s0 dX10_add_45 rfl (by decide) rfl (by omega) (by decide) (sheets_at (by omega)) ?_
          refine fx_lload_n dX10_add_46 rfl (i := 2) rfl ?_
          refine fx_iload dX10_add_47 rfl ?_
          refine fx_callV dX10_add_49 lk10_84 fv_c0 rfl (fw_at (show cT 2 = some (3, 0, 3, [some 3, some 9, some 12]) from rfl)) (C0_join G L hem (51 + 3 * s0) (sht_lay (by omega)) (sht_lay1 (by omega)) (sht_lay2 (by omega)) (Or.inr (by omega)) (T s0) (t s0) (hC s0 (by omega)) (pvd_txs (hV s0 (by omega) hts0).1) x c0 (by omega)) rfl rfl (by decide) (Nat.le_of_ble_eq_true rfl) (by decide) (by decide) (fun r49 f49 al49 h49 => ?_)
          have hq := h49
          obtain ⟨G2, L2, rfl, rfl, rfl, -, -, -, -, -⟩ := h49
          show fv_At Y10_add 4 0 0 Q 52 [(0, .ref 0), (1, .int (nI s0)), (2, .long x), (4, .int (nI c0))] [.int (iI (stl (adS (pal 1 (T s0) zS) c0 x)))] (fw cT G2 L2) none 0 0
          exact fx_iret dX10_add_52 rfl rfl rfl (by rw [hQ]; exact (by rw [show xAdd T t (s0 : Int) x (c0 : Int) = stl (adS (pal 1 (T s0) zS) c0 x) by unfold xAdd; rw [if_pos hin]; exact if_pos hts0]; exact qcs_of hC hq))
        · skip
          refine fx_bipush (v := (iI (-3))) dX10_add_33 (by decide) ?_
          exact fx_iret dX10_add_35 rfl rfl rfl (by rw [hQ]; exact (by rw [show xAdd T t (s0 : Int) x (c0 : Int) = -3 by unfold xAdd; rw [if_pos hin]; exact if_neg (fun q => by simp_all)]; exact qcs_n hem hC (by decide) _ _))
      · skip
        refine fx_bipush (v := (iI (-2))) dX10_add_22 (by decide) ?_
        exact fx_iret dX10_add_24 rfl rfl rfl (by rw [hQ]; exact (by rw [show xAdd T t s x c = -2 by unfold xAdd; exact if_neg (fun q => by first | omega | simp_all)]; exact qcs_n hem hC (by decide) _ _))

set_option maxRecDepth 4000 in
set_option maxHeartbeats 1000000 in
theorem C10_sum  (G : Nat → Nat → Int32) (L : Nat → Nat → Int64) (T : Nat → tms) (t : Nat → Bool) (hC : csh G T t) (hV : pvs T t) (hem : emp G L) (c a b m : Int) (c1 : -2147483648 ≤ c) (c2 : c < 2147483648) (a1 : -2147483648 ≤ a) (a2 : a < 2147483648) (b1 : -2147483648 ≤ b) (b2 : b < 2147483648) (m1 : -2147483648 ≤ m) (m2 : m < 2147483648) : fv_M Y10_sum 4 0 0 [.ref 0, .int (iI c), .int (iI a), .int (iI b), .int (iI m)] (fw cT G L) none (qcs G L T t (xSum T t c a b m) c.toNat (trm (uSum T a b m))) := by
  refine fv_enter rfl (Nat.le_of_ble_eq_true rfl) ?_
  obtain ⟨Q, hQ⟩ : ∃ Q : Option Value → fv_F → Option Nat → Prop, Q = (qcs G L T t (xSum T t c a b m) c.toNat (trm (uSum T a b m))) := ⟨_, rfl⟩
  rw [← hQ]
  show fv_At Y10_sum 4 0 0 Q 0 [(0, .ref 0), (1, .int (iI c)), (2, .int (iI a)), (3, .int (iI b)), (4, .int (iI m))] [] (fw cT G L) none 0 0
  refine fx_iload_n dX10_sum_0 rfl (i := 1) rfl ?_
  refine fn_cS dX10_sum_1 lk10_60 (C10_isSheet (s := c) (by omega) (by omega) (f := (fw cT G L))) rfl rfl (by decide) (Nat.le_of_ble_eq_true rfl) ?_
  show fv_At Y10_sum 4 0 0 Q 4 [(0, .ref 0), (1, .int (iI c)), (2, .int (iI a)), (3, .int (iI b)), (4, .int (iI m))] [.int (bI (isSt c))] (fw cT G L) none 0 0
  refine fn_if_eqB (tgt := 35) dX10_sum_4 (by decide) (fun c4 => ?_) (fun c4 => ?_)
  · skip
    refine fx_bipush (v := (iI (-2))) dX10_sum_35 (by decide) ?_
    exact fx_iret dX10_sum_37 rfl rfl rfl (by rw [hQ]; exact (by rw [show xSum T t c a b m = -2 by unfold xSum; exact if_neg (fun q => by first | omega | simp_all)]; exact qcs_n hem hC (by decide) _ _))
  · skip
    refine fx_iload_n dX10_sum_7 rfl (i := 2) rfl ?_
    refine fn_cS dX10_sum_8 lk10_60 (C10_isSheet (s := a) (by omega) (by omega) (f := (fw cT G L))) rfl rfl (by decide) (Nat.le_of_ble_eq_true rfl) ?_
    show fv_At Y10_sum 4 0 0 Q 11 [(0, .ref 0), (1, .int (iI c)), (2, .int (iI a)), (3, .int (iI b)), (4, .int (iI m))] [.int (bI (isSt a))] (fw cT G L) none 0 0
    refine fn_if_eqB (tgt := 35) dX10_sum_11 (by decide) (fun c11 => ?_) (fun c11 => ?_)
    · skip
      refine fx_bipush (v := (iI (-2))) dX10_sum_35 (by decide) ?_
      exact fx_iret dX10_sum_37 rfl rfl rfl (by rw [hQ]; exact (by rw [show xSum T t c a b m = -2 by unfold xSum; exact if_neg (fun q => by first | omega | simp_all)]; exact qcs_n hem hC (by decide) _ _))
    · skip
      refine fx_iload_n dX10_sum_14 rfl (i := 3) rfl ?_
      refine fn_cS dX10_sum_15 lk10_60 (C10_isSheet (s := b) (by omega) (by omega) (f := (fw cT G L))) rfl rfl (by decide) (Nat.le_of_ble_eq_true rfl) ?_
      show fv_At Y10_sum 4 0 0 Q 18 [(0, .ref 0), (1, .int (iI c)), (2, .int (iI a)), (3, .int (iI b)), (4, .int (iI m))] [.int (bI (isSt b))] (fw cT G L) none 0 0
      refine fn_if_eqB (tgt := 35) dX10_sum_18 (by decide) (fun c18 => ?_) (fun c18 => ?_)
      · skip
        refine fx_bipush (v := (iI (-2))) dX10_sum_35 (by decide) ?_
        exact fx_iret dX10_sum_37 rfl rfl rfl (by rw [hQ]; exact (by rw [show xSum T t c a b m = -2 by unfold xSum; exact if_neg (fun q => by first | omega | simp_all)]; exact qcs_n hem hC (by decide) _ _))
      · skip
        refine fx_iload dX10_sum_21 rfl ?_
        refine fx_ldc dX10_sum_23 kc10_98 (fn_to (show _ = (iI (-1000000)) by decide) ?_)
        refine fn_icmp_ltZ (a := m) (b := -1000000) (tgt := 35) dX10_sum_25 (by decide) (by omega) (by omega) (by omega) (by omega) (fun c25 => ?_) (fun c25 => ?_)
        · skip
          refine fx_bipush (v := (iI (-2))) dX10_sum_35 (by decide) ?_
          exact fx_iret dX10_sum_37 rfl rfl rfl (by rw [hQ]; exact (by rw [show xSum T t c a b m = -2 by unfold xSum; exact if_neg (fun q => by first | omega | simp_all)]; exact qcs_n hem hC (by decide) _ _))
        · skip
          refine fx_iload dX10_sum_28 rfl ?_
          refine fx_ldc dX10_sum_30 kc10_99 (fn_to (show _ = (nI 1000000) by decide) ?_)
          refine fn_icmp_leZ (a := m) (b := ((1000000 : Nat) : Int)) (tgt := 38) dX10_sum_32 (by decide) (by omega) (by omega) (by omega) (by omega) (fun c32 => ?_) (fun c32 => ?_)
          · skip
            have hin : isSt c = true ∧ isSt a = true ∧ isSt b = true ∧ -1000000 ≤ m ∧ m ≤ 1000000 := ⟨c4, c11, c18, by omega, by omega⟩
            have hs1 := isSt_1 c4
            have hs2 := isSt_1 c11
            have hs3 := isSt_1 c18
            obtain ⟨c0, rfl⟩ : ∃ z : Nat, c = (z : Int) := ⟨c.toNat, by omega⟩
            obtain ⟨a0, rfl⟩ : ∃ z : Nat, a = (z : Int) := ⟨a.toNat, by omega⟩
            obtain ⟨b0, rfl⟩ : ∃ z : Nat, b = (z : Int) := ⟨b.toNat, by omega⟩
            show fv_At Y10_sum 4 0 0 Q 38 [(0, .ref 0), (1, .int (nI c0)), (2, .int (nI a0)), (3, .int (nI b0)), (4, .int (iI m))] [] (fw cT G L) none 0 0
            refine fx_aload_n dX10_sum_38 rfl (i := 0) rfl ?_
            refine fx_iload_n dX10_sum_39 rfl (i := 2) rfl ?_
            refine fn_cV dX10_sum_40 lk10_67 fv_c7 rfl (fw_at (show cT 0 = some (3, 7, 4, [some 1, some 2, some 15, some 31]) from rfl)) (C10_isLost G L T t hC a0 (by omega)) rfl rfl (by decide) (Nat.le_of_ble_eq_true rfl) ?_
            show fv_At Y10_sum 4 0 0 Q 43 [(0, .ref 0), (1, .int (nI c0)), (2, .int (nI a0)), (3, .int (nI b0)), (4, .int (iI m))] [.int (bI (!t a0))] (fw cT G L) none 0 0
            refine fn_if_neB (tgt := 54) dX10_sum_43 (by decide) (fun c43 => ?_) (fun c43 => ?_)
            · skip
              refine fx_bipush (v := (iI (-3))) dX10_sum_54 (by decide) ?_
              exact fx_iret dX10_sum_56 rfl rfl rfl (by rw [hQ]; exact (by rw [show xSum T t (c0 : Int) (a0 : Int) (b0 : Int) m = -3 by unfold xSum; rw [if_pos hin]; exact if_neg (fun q => by simp_all)]; exact qcs_n hem hC (by decide) _ _))
            · skip
              refine fx_aload_n dX10_sum_46 rfl (i := 0) rfl ?_
              refine fx_iload_n dX10_sum_47 rfl (i := 3) rfl ?_
              refine fn_cV dX10_sum_48 lk10_67 fv_c7 rfl (fw_at (show cT 0 = some (3, 7, 4, [some 1, some 2, some 15, some 31]) from rfl)) (C10_isLost G L T t hC b0 (by omega)) rfl rfl (by decide) (Nat.le_of_ble_eq_true rfl) ?_
              show fv_At Y10_sum 4 0 0 Q 51 [(0, .ref 0), (1, .int (nI c0)), (2, .int (nI a0)), (3, .int (nI b0)), (4, .int (iI m))] [.int (bI (!t b0))] (fw cT G L) none 0 0
              refine fn_if_eqB (tgt := 57) dX10_sum_51 (by decide) (fun c51 => ?_) (fun c51 => ?_)
              · skip
                have hta0 : t a0 = true := by simpa using c43
                have htb0 : t b0 = true := by simpa using c51
                refine fx_aload_n dX10_sum_57 rfl (i := 0) rfl ?_
                refine fw_getr dX10_sum_58 fd10_18 rfl rfl ?_
                refine fx_aload_n dX10_sum_61 rfl (i := 0) rfl ?_
                refine fw_getr dX10_sum_62 fd10_11 rfl rfl ?_
                refine fx_iload_n dX10_sum_65 rfl (i := 1) rfl ?_
                refine fw_aald (r := 51 + 3 * c0) c0 dX10_sum_66 rfl (by decide) rfl (by omega) (by decide) (sheets_at (by omega)) ?_
                refine fx_aload_n dX10_sum_67 rfl (i := 0) rfl ?_
                refine fw_getr dX10_sum_68 fd10_11 rfl rfl ?_
                refine fx_iload_n dX10_sum_71 rfl (i := 2) rfl ?_
                refine fw_aald (r := 51 + 3 * a0) a0 dX10_sum_72 rfl (by decide) rfl (by omega) (by decide) (sheets_at (by omega)) ?_
                refine fx_aload_n dX10_sum_73 rfl (i := 0) rfl ?_
                refine fw_getr dX10_sum_74 fd10_11 rfl rfl ?_
                refine fx_iload_n dX10_sum_77 rfl (i := 3) rfl ?_
                refine fw_aald (r := 51 + 3 * b0) b0 dX10_sum_78 rfl (by decide) rfl (by omega) (by decide) (sheets_at (by omega)) ?_
                refine fx_iload dX10_sum_79 rfl ?_
                refine fx_callV dX10_sum_81 lk10_100 fv_c0 rfl (fw_at (show cT 2 = some (3, 0, 3, [some 3, some 9, some 12]) from rfl)) (C0_combine G L hem (51 + 3 * c0) (sht_lay (by omega)) (sht_lay1 (by omega)) (sht_lay2 (by omega)) (Or.inr (by omega)) (51 + 3 * a0) (sht_lay (by omega)) (sht_lay1 (by omega)) (sht_lay2 (by omega)) (51 + 3 * b0) (sht_lay (by omega)) (sht_lay1 (by omega)) (sht_lay2 (by omega)) (T a0) (t a0) (hC a0 (by omega)) (pvd_txs (hV a0 (by omega) hta0).1) (T b0) (t b0) (hC b0 (by omega)) (pvd_txs (hV b0 (by omega) htb0).1) m) rfl rfl (by decide) (Nat.le_of_ble_eq_true rfl) (by decide) (by decide) (fun r81 f81 al81 h81 => ?_)
                have hq := h81
                obtain ⟨G2, L2, rfl, rfl, rfl, -, -, -, -, -⟩ := h81
                show fv_At Y10_sum 4 0 0 Q 84 [(0, .ref 0), (1, .int (nI c0)), (2, .int (nI a0)), (3, .int (nI b0)), (4, .int (iI m))] [.int (iI (stl (pal (iI m).toInt64 (T b0) (pal 1 (T a0) zS))))] (fw cT G2 L2) none 0 0
                exact fx_iret dX10_sum_84 rfl rfl rfl (by rw [hQ]; exact (by rw [show xSum T t (c0 : Int) (a0 : Int) (b0 : Int) m = stl (pal (iI m).toInt64 (T b0) (pal 1 (T a0) zS)) by unfold xSum; rw [if_pos hin]; exact if_pos ⟨hta0, htb0⟩]; exact qcs_of hC hq))
              · skip
                refine fx_bipush (v := (iI (-3))) dX10_sum_54 (by decide) ?_
                exact fx_iret dX10_sum_56 rfl rfl rfl (by rw [hQ]; exact (by rw [show xSum T t (c0 : Int) (a0 : Int) (b0 : Int) m = -3 by unfold xSum; rw [if_pos hin]; exact if_neg (fun q => by simp_all)]; exact qcs_n hem hC (by decide) _ _))
          · skip
            refine fx_bipush (v := (iI (-2))) dX10_sum_35 (by decide) ?_
            exact fx_iret dX10_sum_37 rfl rfl rfl (by rw [hQ]; exact (by rw [show xSum T t c a b m = -2 by unfold xSum; exact if_neg (fun q => by first | omega | simp_all)]; exact qcs_n hem hC (by decide) _ _))

set_option maxRecDepth 4000 in
set_option maxHeartbeats 1000000 in
theorem C10_product  (G : Nat → Nat → Int32) (L : Nat → Nat → Int64) (T : Nat → tms) (t : Nat → Bool) (hC : csh G T t) (hV : pvs T t) (hem : emp G L) (c a b : Int) (c1 : -2147483648 ≤ c) (c2 : c < 2147483648) (a1 : -2147483648 ≤ a) (a2 : a < 2147483648) (b1 : -2147483648 ≤ b) (b2 : b < 2147483648) : fv_M Y10_product 5 0 0 [.ref 0, .int (iI c), .int (iI a), .int (iI b)] (fw cT G L) none (qcs G L T t (xPro T t c a b) c.toNat (trm (uPro T a b))) := by
  refine fv_enter rfl (Nat.le_of_ble_eq_true rfl) ?_
  obtain ⟨Q, hQ⟩ : ∃ Q : Option Value → fv_F → Option Nat → Prop, Q = (qcs G L T t (xPro T t c a b) c.toNat (trm (uPro T a b))) := ⟨_, rfl⟩
  rw [← hQ]
  show fv_At Y10_product 5 0 0 Q 0 [(0, .ref 0), (1, .int (iI c)), (2, .int (iI a)), (3, .int (iI b))] [] (fw cT G L) none 0 0
  refine fx_iload_n dX10_product_0 rfl (i := 1) rfl ?_
  refine fn_cS dX10_product_1 lk10_60 (C10_isSheet (s := c) (by omega) (by omega) (f := (fw cT G L))) rfl rfl (by decide) (Nat.le_of_ble_eq_true rfl) ?_
  show fv_At Y10_product 5 0 0 Q 4 [(0, .ref 0), (1, .int (iI c)), (2, .int (iI a)), (3, .int (iI b))] [.int (bI (isSt c))] (fw cT G L) none 0 0
  refine fn_if_eqB (tgt := 21) dX10_product_4 (by decide) (fun c4 => ?_) (fun c4 => ?_)
  · skip
    refine fx_bipush (v := (iI (-2))) dX10_product_21 (by decide) ?_
    exact fx_iret dX10_product_23 rfl rfl rfl (by rw [hQ]; exact (by rw [show xPro T t c a b = -2 by unfold xPro; exact if_neg (fun q => by first | omega | simp_all)]; exact qcs_n hem hC (by decide) _ _))
  · skip
    refine fx_iload_n dX10_product_7 rfl (i := 2) rfl ?_
    refine fn_cS dX10_product_8 lk10_60 (C10_isSheet (s := a) (by omega) (by omega) (f := (fw cT G L))) rfl rfl (by decide) (Nat.le_of_ble_eq_true rfl) ?_
    show fv_At Y10_product 5 0 0 Q 11 [(0, .ref 0), (1, .int (iI c)), (2, .int (iI a)), (3, .int (iI b))] [.int (bI (isSt a))] (fw cT G L) none 0 0
    refine fn_if_eqB (tgt := 21) dX10_product_11 (by decide) (fun c11 => ?_) (fun c11 => ?_)
    · skip
      refine fx_bipush (v := (iI (-2))) dX10_product_21 (by decide) ?_
      exact fx_iret dX10_product_23 rfl rfl rfl (by rw [hQ]; exact (by rw [show xPro T t c a b = -2 by unfold xPro; exact if_neg (fun q => by first | omega | simp_all)]; exact qcs_n hem hC (by decide) _ _))
    · skip
      refine fx_iload_n dX10_product_14 rfl (i := 3) rfl ?_
      refine fn_cS dX10_product_15 lk10_60 (C10_isSheet (s := b) (by omega) (by omega) (f := (fw cT G L))) rfl rfl (by decide) (Nat.le_of_ble_eq_true rfl) ?_
      show fv_At Y10_product 5 0 0 Q 18 [(0, .ref 0), (1, .int (iI c)), (2, .int (iI a)), (3, .int (iI b))] [.int (bI (isSt b))] (fw cT G L) none 0 0
      refine fn_if_neB (tgt := 24) dX10_product_18 (by decide) (fun c18 => ?_) (fun c18 => ?_)
      · skip
        have hin : isSt c = true ∧ isSt a = true ∧ isSt b = true := ⟨c4, c11, c18⟩
        have hs1 := isSt_1 c4
        have hs2 := isSt_1 c11
        have hs3 := isSt_1 c18
        obtain ⟨c0, rfl⟩ : ∃ z : Nat, c = (z : Int) := ⟨c.toNat, by omega⟩
        obtain ⟨a0, rfl⟩ : ∃ z : Nat, a = (z : Int) := ⟨a.toNat, by omega⟩
        obtain ⟨b0, rfl⟩ : ∃ z : Nat, b = (z : Int) := ⟨b.toNat, by omega⟩
        show fv_At Y10_product 5 0 0 Q 24 [(0, .ref 0), (1, .int (nI c0)), (2, .int (nI a0)), (3, .int (nI b0))] [] (fw cT G L) none 0 0
        refine fx_aload_n dX10_product_24 rfl (i := 0) rfl ?_
        refine fx_iload_n dX10_product_25 rfl (i := 2) rfl ?_
        refine fn_cV dX10_product_26 lk10_67 fv_c7 rfl (fw_at (show cT 0 = some (3, 7, 4, [some 1, some 2, some 15, some 31]) from rfl)) (C10_isLost G L T t hC a0 (by omega)) rfl rfl (by decide) (Nat.le_of_ble_eq_true rfl) ?_
        show fv_At Y10_product 5 0 0 Q 29 [(0, .ref 0), (1, .int (nI c0)), (2, .int (nI a0)), (3, .int (nI b0))] [.int (bI (!t a0))] (fw cT G L) none 0 0
        refine fn_if_neB (tgt := 40) dX10_product_29 (by decide) (fun c29 => ?_) (fun c29 => ?_)
        · skip
          refine fx_bipush (v := (iI (-3))) dX10_product_40 (by decide) ?_
          exact fx_iret dX10_product_42 rfl rfl rfl (by rw [hQ]; exact (by rw [show xPro T t (c0 : Int) (a0 : Int) (b0 : Int) = -3 by unfold xPro; rw [if_pos hin]; exact if_neg (fun q => by simp_all)]; exact qcs_n hem hC (by decide) _ _))
        · skip
          refine fx_aload_n dX10_product_32 rfl (i := 0) rfl ?_
          refine fx_iload_n dX10_product_33 rfl (i := 3) rfl ?_
          refine fn_cV dX10_product_34 lk10_67 fv_c7 rfl (fw_at (show cT 0 = some (3, 7, 4, [some 1, some 2, some 15, some 31]) from rfl)) (C10_isLost G L T t hC b0 (by omega)) rfl rfl (by decide) (Nat.le_of_ble_eq_true rfl) ?_
          show fv_At Y10_product 5 0 0 Q 37 [(0, .ref 0), (1, .int (nI c0)), (2, .int (nI a0)), (3, .int (nI b0))] [.int (bI (!t b0))] (fw cT G L) none 0 0
          refine fn_if_eqB (tgt := 43) dX10_product_37 (by decide) (fun c37 => ?_) (fun c37 => ?_)
          · skip
            have hta0 : t a0 = true := by simpa using c29
            have htb0 : t b0 = true := by simpa using c37
            refine fx_aload_n dX10_product_43 rfl (i := 0) rfl ?_
            refine fw_getr dX10_product_44 fd10_18 rfl rfl ?_
            refine fx_aload_n dX10_product_47 rfl (i := 0) rfl ?_
            refine fw_getr dX10_product_48 fd10_11 rfl rfl ?_
            refine fx_iload_n dX10_product_51 rfl (i := 1) rfl ?_
            refine fw_aald (r := 51 + 3 * c0) c0 dX10_product_52 rfl (by decide) rfl (by omega) (by decide) (sheets_at (by omega)) ?_
            refine fx_aload_n dX10_product_53 rfl (i := 0) rfl ?_
            refine fw_getr dX10_product_54 fd10_11 rfl rfl ?_
            refine fx_iload_n dX10_product_57 rfl (i := 2) rfl ?_
            refine fw_aald (r := 51 + 3 * a0) a0 dX10_product_58 rfl (by decide) rfl (by omega) (by decide) (sheets_at (by omega)) ?_
            refine fx_aload_n dX10_product_59 rfl (i := 0) rfl ?_
            refine fw_getr dX10_product_60 fd10_11 rfl rfl ?_
            refine fx_iload_n dX10_product_63 rfl (i := 3) rfl ?_
            refine fw_aald (r := 51 + 3 * b0) b0 dX10_product_64 rfl (by decide) rfl (by omega) (by decide) (sheets_at (by omega)) ?_
            refine fx_callV dX10_product_65 lk10_104 fv_c0 rfl (fw_at (show cT 2 = some (3, 0, 3, [some 3, some 9, some 12]) from rfl)) (C0_multiply G L hem (51 + 3 * c0) (sht_lay (by omega)) (sht_lay1 (by omega)) (sht_lay2 (by omega)) (Or.inr (by omega)) (51 + 3 * a0) (sht_lay (by omega)) (sht_lay1 (by omega)) (sht_lay2 (by omega)) (51 + 3 * b0) (sht_lay (by omega)) (sht_lay1 (by omega)) (sht_lay2 (by omega)) (T a0) (t a0) (hC a0 (by omega)) (T b0) (t b0) (hC b0 (by omega)) (fun q i hi j hj => okc_le (thi_ok (hV a0 (by omega) hta0).1 (hV b0 (by omega) htb0).1 q i hi j hj))) rfl rfl (by decide) (Nat.le_of_ble_eq_true rfl) (by decide) (by decide) (fun r65 f65 al65 h65 => ?_)
            have hq := h65
            obtain ⟨G2, L2, rfl, rfl, rfl, -, -, -, -, -⟩ := h65
            show fv_At Y10_product 5 0 0 Q 68 [(0, .ref 0), (1, .int (nI c0)), (2, .int (nI a0)), (3, .int (nI b0))] [.int (iI (if thi (T a0) (T b0) = true then -4 else stl (pml (T b0) (T a0) zS)))] (fw cT G2 L2) none 0 0
            exact fx_iret dX10_product_68 rfl rfl rfl (by rw [hQ]; exact (by rw [show xPro T t (c0 : Int) (a0 : Int) (b0 : Int) = if thi (T a0) (T b0) = true then -4 else stl (pml (T b0) (T a0) zS) by unfold xPro; rw [if_pos hin]; exact if_pos ⟨hta0, htb0⟩]; exact qcs_of hC hq))
          · skip
            refine fx_bipush (v := (iI (-3))) dX10_product_40 (by decide) ?_
            exact fx_iret dX10_product_42 rfl rfl rfl (by rw [hQ]; exact (by rw [show xPro T t (c0 : Int) (a0 : Int) (b0 : Int) = -3 by unfold xPro; rw [if_pos hin]; exact if_neg (fun q => by simp_all)]; exact qcs_n hem hC (by decide) _ _))
      · skip
        refine fx_bipush (v := (iI (-2))) dX10_product_21 (by decide) ?_
        exact fx_iret dX10_product_23 rfl rfl rfl (by rw [hQ]; exact (by rw [show xPro T t c a b = -2 by unfold xPro; exact if_neg (fun q => by first | omega | simp_all)]; exact qcs_n hem hC (by decide) _ _))

set_option maxRecDepth 4000 in
set_option maxHeartbeats 1000000 in
theorem C10_turned  (G : Nat → Nat → Int32) (L : Nat → Nat → Int64) (T : Nat → tms) (t : Nat → Bool) (hC : csh G T t) (hV : pvs T t) (hem : emp G L) (c a i : Int) (c1 : -2147483648 ≤ c) (c2 : c < 2147483648) (a1 : -2147483648 ≤ a) (a2 : a < 2147483648) (i1 : -2147483648 ≤ i) (i2 : i < 2147483648) : fv_M Y10_turned 5 0 0 [.ref 0, .int (iI c), .int (iI a), .int (iI i)] (fw cT G L) none (qcs G L T t (xTur T t c a i) c.toNat (trm (uTur T a i))) := by
  refine fv_enter rfl (Nat.le_of_ble_eq_true rfl) ?_
  obtain ⟨Q, hQ⟩ : ∃ Q : Option Value → fv_F → Option Nat → Prop, Q = (qcs G L T t (xTur T t c a i) c.toNat (trm (uTur T a i))) := ⟨_, rfl⟩
  rw [← hQ]
  show fv_At Y10_turned 5 0 0 Q 0 [(0, .ref 0), (1, .int (iI c)), (2, .int (iI a)), (3, .int (iI i))] [] (fw cT G L) none 0 0
  refine fx_iload_n dX10_turned_0 rfl (i := 1) rfl ?_
  refine fn_cS dX10_turned_1 lk10_60 (C10_isSheet (s := c) (by omega) (by omega) (f := (fw cT G L))) rfl rfl (by decide) (Nat.le_of_ble_eq_true rfl) ?_
  show fv_At Y10_turned 5 0 0 Q 4 [(0, .ref 0), (1, .int (iI c)), (2, .int (iI a)), (3, .int (iI i))] [.int (bI (isSt c))] (fw cT G L) none 0 0
  refine fn_if_eqB (tgt := 24) dX10_turned_4 (by decide) (fun c4 => ?_) (fun c4 => ?_)
  · skip
    refine fx_bipush (v := (iI (-2))) dX10_turned_24 (by decide) ?_
    exact fx_iret dX10_turned_26 rfl rfl rfl (by rw [hQ]; exact (by rw [show xTur T t c a i = -2 by unfold xTur; exact if_neg (fun q => by first | omega | simp_all)]; exact qcs_n hem hC (by decide) _ _))
  · skip
    refine fx_iload_n dX10_turned_7 rfl (i := 2) rfl ?_
    refine fn_cS dX10_turned_8 lk10_60 (C10_isSheet (s := a) (by omega) (by omega) (f := (fw cT G L))) rfl rfl (by decide) (Nat.le_of_ble_eq_true rfl) ?_
    show fv_At Y10_turned 5 0 0 Q 11 [(0, .ref 0), (1, .int (iI c)), (2, .int (iI a)), (3, .int (iI i))] [.int (bI (isSt a))] (fw cT G L) none 0 0
    refine fn_if_eqB (tgt := 24) dX10_turned_11 (by decide) (fun c11 => ?_) (fun c11 => ?_)
    · skip
      refine fx_bipush (v := (iI (-2))) dX10_turned_24 (by decide) ?_
      exact fx_iret dX10_turned_26 rfl rfl rfl (by rw [hQ]; exact (by rw [show xTur T t c a i = -2 by unfold xTur; exact if_neg (fun q => by first | omega | simp_all)]; exact qcs_n hem hC (by decide) _ _))
    · skip
      refine fx_iload_n dX10_turned_14 rfl (i := 3) rfl ?_
      refine fx_iconst (v := (nI 1)) dX10_turned_15 (by decide) ?_
      refine fn_icmp_ltZ (a := i) (b := ((1 : Nat) : Int)) (tgt := 24) dX10_turned_16 (by decide) (by omega) (by omega) (by omega) (by omega) (fun c16 => ?_) (fun c16 => ?_)
      · skip
        refine fx_bipush (v := (iI (-2))) dX10_turned_24 (by decide) ?_
        exact fx_iret dX10_turned_26 rfl rfl rfl (by rw [hQ]; exact (by rw [show xTur T t c a i = -2 by unfold xTur; exact if_neg (fun q => by first | omega | simp_all)]; exact qcs_n hem hC (by decide) _ _))
      · skip
        refine fx_iload_n dX10_turned_19 rfl (i := 3) rfl ?_
        refine fx_iconst (v := (nI 5)) dX10_turned_20 (by decide) ?_
        refine fn_icmp_ltZ (a := i) (b := ((5 : Nat) : Int)) (tgt := 27) dX10_turned_21 (by decide) (by omega) (by omega) (by omega) (by omega) (fun c21 => ?_) (fun c21 => ?_)
        · skip
          have hin : isSt c = true ∧ isSt a = true ∧ 1 ≤ i ∧ i < 5 := ⟨c4, c11, by omega, by omega⟩
          have hs1 := isSt_1 c4
          have hs2 := isSt_1 c11
          obtain ⟨c0, rfl⟩ : ∃ z : Nat, c = (z : Int) := ⟨c.toNat, by omega⟩
          obtain ⟨a0, rfl⟩ : ∃ z : Nat, a = (z : Int) := ⟨a.toNat, by omega⟩
          obtain ⟨i0, rfl⟩ : ∃ w : Nat, i = ((w + 1 : Nat) : Int) := ⟨i.toNat - 1, by omega⟩
          show fv_At Y10_turned 5 0 0 Q 27 [(0, .ref 0), (1, .int (nI c0)), (2, .int (nI a0)), (3, .int (nI (i0 + 1)))] [] (fw cT G L) none 0 0
          refine fx_aload_n dX10_turned_27 rfl (i := 0) rfl ?_
          refine fx_iload_n dX10_turned_28 rfl (i := 2) rfl ?_
          refine fn_cV dX10_turned_29 lk10_67 fv_c7 rfl (fw_at (show cT 0 = some (3, 7, 4, [some 1, some 2, some 15, some 31]) from rfl)) (C10_isLost G L T t hC a0 (by omega)) rfl rfl (by decide) (Nat.le_of_ble_eq_true rfl) ?_
          show fv_At Y10_turned 5 0 0 Q 32 [(0, .ref 0), (1, .int (nI c0)), (2, .int (nI a0)), (3, .int (nI (i0 + 1)))] [.int (bI (!t a0))] (fw cT G L) none 0 0
          refine fn_if_eqB (tgt := 40) dX10_turned_32 (by decide) (fun c32 => ?_) (fun c32 => ?_)
          · skip
            have hta0 : t a0 = true := by simpa using c32
            refine fx_aload_n dX10_turned_40 rfl (i := 0) rfl ?_
            refine fw_getr dX10_turned_41 fd10_18 rfl rfl ?_
            refine fx_aload_n dX10_turned_44 rfl (i := 0) rfl ?_
            refine fw_getr dX10_turned_45 fd10_11 rfl rfl ?_
            refine fx_iload_n dX10_turned_48 rfl (i := 1) rfl ?_
            refine fw_aald (r := 51 + 3 * c0) c0 dX10_turned_49 rfl (by decide) rfl (by omega) (by decide) (sheets_at (by omega)) ?_
            refine fx_aload_n dX10_turned_50 rfl (i := 0) rfl ?_
            refine fw_getr dX10_turned_51 fd10_11 rfl rfl ?_
            refine fx_iload_n dX10_turned_54 rfl (i := 2) rfl ?_
            refine fw_aald (r := 51 + 3 * a0) a0 dX10_turned_55 rfl (by decide) rfl (by omega) (by decide) (sheets_at (by omega)) ?_
            refine fx_iload_n dX10_turned_56 rfl (i := 3) rfl ?_
            refine fx_callV dX10_turned_57 lk10_108 fv_c0 rfl (fw_at (show cT 2 = some (3, 0, 3, [some 3, some 9, some 12]) from rfl)) (C0_swapLetters G L hem (51 + 3 * c0) (sht_lay (by omega)) (sht_lay1 (by omega)) (sht_lay2 (by omega)) (Or.inr (by omega)) (51 + 3 * a0) (sht_lay (by omega)) (sht_lay1 (by omega)) (sht_lay2 (by omega)) (T a0) (t a0) (hC a0 (by omega)) i0 (by omega) (fun j hj => okc_le (okc_swp ((hV a0 (by omega) hta0).1 j hj) (by omega)))) rfl rfl (by decide) (Nat.le_of_ble_eq_true rfl) (by decide) (by decide) (fun r57 f57 al57 h57 => ?_)
            have hq := h57
            obtain ⟨G2, L2, rfl, rfl, rfl, -, -, -, -, -⟩ := h57
            show fv_At Y10_turned 5 0 0 Q 60 [(0, .ref 0), (1, .int (nI c0)), (2, .int (nI a0)), (3, .int (nI (i0 + 1)))] [.int (iI (stl (psw i0 (T a0) zS)))] (fw cT G2 L2) none 0 0
            exact fx_iret dX10_turned_60 rfl rfl rfl (by rw [hQ]; exact (by rw [show xTur T t (c0 : Int) (a0 : Int) ((i0 + 1 : Nat) : Int) = stl (psw i0 (T a0) zS) by unfold xTur; rw [if_pos hin]; exact if_pos hta0]; exact qcs_of hC hq))
          · skip
            refine fx_bipush (v := (iI (-3))) dX10_turned_35 (by decide) ?_
            refine fx_goto (tgt := 60) dX10_turned_37 (by decide) ?_
            exact fx_iret dX10_turned_60 rfl rfl rfl (by rw [hQ]; exact (by rw [show xTur T t (c0 : Int) (a0 : Int) ((i0 + 1 : Nat) : Int) = -3 by unfold xTur; rw [if_pos hin]; exact if_neg (fun q => by simp_all)]; exact qcs_n hem hC (by decide) _ _))
        · skip
          refine fx_bipush (v := (iI (-2))) dX10_turned_24 (by decide) ?_
          exact fx_iret dX10_turned_26 rfl rfl rfl (by rw [hQ]; exact (by rw [show xTur T t c a i = -2 by unfold xTur; exact if_neg (fun q => by first | omega | simp_all)]; exact qcs_n hem hC (by decide) _ _))

set_option maxRecDepth 4000 in
set_option maxHeartbeats 1000000 in
theorem C10_difference  (G : Nat → Nat → Int32) (L : Nat → Nat → Int64) (T : Nat → tms) (t : Nat → Bool) (hC : csh G T t) (hV : pvs T t) (hem : emp G L) (c a i : Int) (c1 : -2147483648 ≤ c) (c2 : c < 2147483648) (a1 : -2147483648 ≤ a) (a2 : a < 2147483648) (i1 : -2147483648 ≤ i) (i2 : i < 2147483648) : fv_M Y10_difference 5 0 0 [.ref 0, .int (iI c), .int (iI a), .int (iI i)] (fw cT G L) none (qcs G L T t (xDif T t c a i) c.toNat (trm (uDif T a i))) := by
  refine fv_enter rfl (Nat.le_of_ble_eq_true rfl) ?_
  obtain ⟨Q, hQ⟩ : ∃ Q : Option Value → fv_F → Option Nat → Prop, Q = (qcs G L T t (xDif T t c a i) c.toNat (trm (uDif T a i))) := ⟨_, rfl⟩
  rw [← hQ]
  show fv_At Y10_difference 5 0 0 Q 0 [(0, .ref 0), (1, .int (iI c)), (2, .int (iI a)), (3, .int (iI i))] [] (fw cT G L) none 0 0
  refine fx_iload_n dX10_difference_0 rfl (i := 1) rfl ?_
  refine fn_cS dX10_difference_1 lk10_60 (C10_isSheet (s := c) (by omega) (by omega) (f := (fw cT G L))) rfl rfl (by decide) (Nat.le_of_ble_eq_true rfl) ?_
  show fv_At Y10_difference 5 0 0 Q 4 [(0, .ref 0), (1, .int (iI c)), (2, .int (iI a)), (3, .int (iI i))] [.int (bI (isSt c))] (fw cT G L) none 0 0
  refine fn_if_eqB (tgt := 24) dX10_difference_4 (by decide) (fun c4 => ?_) (fun c4 => ?_)
  · skip
    refine fx_bipush (v := (iI (-2))) dX10_difference_24 (by decide) ?_
    exact fx_iret dX10_difference_26 rfl rfl rfl (by rw [hQ]; exact (by rw [show xDif T t c a i = -2 by unfold xDif; exact if_neg (fun q => by first | omega | simp_all)]; exact qcs_n hem hC (by decide) _ _))
  · skip
    refine fx_iload_n dX10_difference_7 rfl (i := 2) rfl ?_
    refine fn_cS dX10_difference_8 lk10_60 (C10_isSheet (s := a) (by omega) (by omega) (f := (fw cT G L))) rfl rfl (by decide) (Nat.le_of_ble_eq_true rfl) ?_
    show fv_At Y10_difference 5 0 0 Q 11 [(0, .ref 0), (1, .int (iI c)), (2, .int (iI a)), (3, .int (iI i))] [.int (bI (isSt a))] (fw cT G L) none 0 0
    refine fn_if_eqB (tgt := 24) dX10_difference_11 (by decide) (fun c11 => ?_) (fun c11 => ?_)
    · skip
      refine fx_bipush (v := (iI (-2))) dX10_difference_24 (by decide) ?_
      exact fx_iret dX10_difference_26 rfl rfl rfl (by rw [hQ]; exact (by rw [show xDif T t c a i = -2 by unfold xDif; exact if_neg (fun q => by first | omega | simp_all)]; exact qcs_n hem hC (by decide) _ _))
    · skip
      refine fx_iload_n dX10_difference_14 rfl (i := 3) rfl ?_
      refine fx_iconst (v := (nI 1)) dX10_difference_15 (by decide) ?_
      refine fn_icmp_ltZ (a := i) (b := ((1 : Nat) : Int)) (tgt := 24) dX10_difference_16 (by decide) (by omega) (by omega) (by omega) (by omega) (fun c16 => ?_) (fun c16 => ?_)
      · skip
        refine fx_bipush (v := (iI (-2))) dX10_difference_24 (by decide) ?_
        exact fx_iret dX10_difference_26 rfl rfl rfl (by rw [hQ]; exact (by rw [show xDif T t c a i = -2 by unfold xDif; exact if_neg (fun q => by first | omega | simp_all)]; exact qcs_n hem hC (by decide) _ _))
      · skip
        refine fx_iload_n dX10_difference_19 rfl (i := 3) rfl ?_
        refine fx_iconst (v := (nI 5)) dX10_difference_20 (by decide) ?_
        refine fn_icmp_ltZ (a := i) (b := ((5 : Nat) : Int)) (tgt := 27) dX10_difference_21 (by decide) (by omega) (by omega) (by omega) (by omega) (fun c21 => ?_) (fun c21 => ?_)
        · skip
          have hin : isSt c = true ∧ isSt a = true ∧ 1 ≤ i ∧ i < 5 := ⟨c4, c11, by omega, by omega⟩
          have hs1 := isSt_1 c4
          have hs2 := isSt_1 c11
          obtain ⟨c0, rfl⟩ : ∃ z : Nat, c = (z : Int) := ⟨c.toNat, by omega⟩
          obtain ⟨a0, rfl⟩ : ∃ z : Nat, a = (z : Int) := ⟨a.toNat, by omega⟩
          obtain ⟨i0, rfl⟩ : ∃ w : Nat, i = ((w + 1 : Nat) : Int) := ⟨i.toNat - 1, by omega⟩
          show fv_At Y10_difference 5 0 0 Q 27 [(0, .ref 0), (1, .int (nI c0)), (2, .int (nI a0)), (3, .int (nI (i0 + 1)))] [] (fw cT G L) none 0 0
          refine fx_aload_n dX10_difference_27 rfl (i := 0) rfl ?_
          refine fx_iload_n dX10_difference_28 rfl (i := 2) rfl ?_
          refine fn_cV dX10_difference_29 lk10_67 fv_c7 rfl (fw_at (show cT 0 = some (3, 7, 4, [some 1, some 2, some 15, some 31]) from rfl)) (C10_isLost G L T t hC a0 (by omega)) rfl rfl (by decide) (Nat.le_of_ble_eq_true rfl) ?_
          show fv_At Y10_difference 5 0 0 Q 32 [(0, .ref 0), (1, .int (nI c0)), (2, .int (nI a0)), (3, .int (nI (i0 + 1)))] [.int (bI (!t a0))] (fw cT G L) none 0 0
          refine fn_if_eqB (tgt := 40) dX10_difference_32 (by decide) (fun c32 => ?_) (fun c32 => ?_)
          · skip
            have hta0 : t a0 = true := by simpa using c32
            refine fx_aload_n dX10_difference_40 rfl (i := 0) rfl ?_
            refine fw_getr dX10_difference_41 fd10_18 rfl rfl ?_
            refine fx_aload_n dX10_difference_44 rfl (i := 0) rfl ?_
            refine fw_getr dX10_difference_45 fd10_11 rfl rfl ?_
            refine fx_iload_n dX10_difference_48 rfl (i := 1) rfl ?_
            refine fw_aald (r := 51 + 3 * c0) c0 dX10_difference_49 rfl (by decide) rfl (by omega) (by decide) (sheets_at (by omega)) ?_
            refine fx_aload_n dX10_difference_50 rfl (i := 0) rfl ?_
            refine fw_getr dX10_difference_51 fd10_11 rfl rfl ?_
            refine fx_iload_n dX10_difference_54 rfl (i := 2) rfl ?_
            refine fw_aald (r := 51 + 3 * a0) a0 dX10_difference_55 rfl (by decide) rfl (by omega) (by decide) (sheets_at (by omega)) ?_
            refine fx_iload_n dX10_difference_56 rfl (i := 3) rfl ?_
            refine fx_callV dX10_difference_57 lk10_112 fv_c0 rfl (fw_at (show cT 2 = some (3, 0, 3, [some 3, some 9, some 12]) from rfl)) (C0_differ G L hem (51 + 3 * c0) (sht_lay (by omega)) (sht_lay1 (by omega)) (sht_lay2 (by omega)) (Or.inr (by omega)) (51 + 3 * a0) (sht_lay (by omega)) (sht_lay1 (by omega)) (sht_lay2 (by omega)) (T a0) (t a0) (hC a0 (by omega)) i0 (by omega) (fun j hj => okc_okd ((hV a0 (by omega) hta0).1 j hj) (by omega))) rfl rfl (by decide) (Nat.le_of_ble_eq_true rfl) (by decide) (by decide) (fun r57 f57 al57 h57 => ?_)
            have hq := h57
            obtain ⟨G2, L2, rfl, rfl, rfl, -, -, -, -, -⟩ := h57
            show fv_At Y10_difference 5 0 0 Q 60 [(0, .ref 0), (1, .int (nI c0)), (2, .int (nI a0)), (3, .int (nI (i0 + 1)))] [.int (iI (stl (pdf i0 (T a0) zS)))] (fw cT G2 L2) none 0 0
            exact fx_iret dX10_difference_60 rfl rfl rfl (by rw [hQ]; exact (by rw [show xDif T t (c0 : Int) (a0 : Int) ((i0 + 1 : Nat) : Int) = stl (pdf i0 (T a0) zS) by unfold xDif; rw [if_pos hin]; exact if_pos hta0]; exact qcs_of hC hq))
          · skip
            refine fx_bipush (v := (iI (-3))) dX10_difference_35 (by decide) ?_
            refine fx_goto (tgt := 60) dX10_difference_37 (by decide) ?_
            exact fx_iret dX10_difference_60 rfl rfl rfl (by rw [hQ]; exact (by rw [show xDif T t (c0 : Int) (a0 : Int) ((i0 + 1 : Nat) : Int) = -3 by unfold xDif; rw [if_pos hin]; exact if_neg (fun q => by simp_all)]; exact qcs_n hem hC (by decide) _ _))
        · skip
          refine fx_bipush (v := (iI (-2))) dX10_difference_24 (by decide) ?_
          exact fx_iret dX10_difference_26 rfl rfl rfl (by rw [hQ]; exact (by rw [show xDif T t c a i = -2 by unfold xDif; exact if_neg (fun q => by first | omega | simp_all)]; exact qcs_n hem hC (by decide) _ _))

set_option maxRecDepth 4000 in
set_option maxHeartbeats 1000000 in
theorem C10_polynomial  (G : Nat → Nat → Int32) (L : Nat → Nat → Int64) (T : Nat → tms) (t : Nat → Bool) (hC : csh G T t) (hV : pvs T t) (hem : emp G L) (c o : Int) (c1 : -2147483648 ≤ c) (c2 : c < 2147483648) (o1 : -2147483648 ≤ o) (o2 : o < 2147483648) : fv_M Y10_polynomial 6 0 0 [.ref 0, .int (iI c), .int (iI o)] (fw cT G L) none (qcs G L T t (xPol c o) c.toNat (uPol o)) := by
  refine fv_enter rfl (Nat.le_of_ble_eq_true rfl) ?_
  obtain ⟨Q, hQ⟩ : ∃ Q : Option Value → fv_F → Option Nat → Prop, Q = (qcs G L T t (xPol c o) c.toNat (uPol o)) := ⟨_, rfl⟩
  rw [← hQ]
  show fv_At Y10_polynomial 6 0 0 Q 0 [(0, .ref 0), (1, .int (iI c)), (2, .int (iI o))] [] (fw cT G L) none 0 0
  have fo5 := figs_le o
  refine fx_iload_n dX10_polynomial_0 rfl (i := 2) rfl ?_
  refine fn_cS dX10_polynomial_1 lk10_37 (C6_figures (o := o) (by omega) (by omega) (f := (fw cT G L))) rfl rfl (by decide) (Nat.le_of_ble_eq_true rfl) ?_
  show fv_At Y10_polynomial 6 0 0 Q 4 [(0, .ref 0), (1, .int (iI c)), (2, .int (iI o))] [.int (nI (figs o))] (fw cT G L) none 0 0
  refine fx_istore_n (lv2 := [(0, .ref 0), (1, .int (iI c)), (2, .int (iI o)), (3, .int (nI (figs o)))]) dX10_polynomial_4 (i := 3) rfl (by decide) rfl ?_
  refine fx_iload_n dX10_polynomial_5 rfl (i := 1) rfl ?_
  refine fn_cS dX10_polynomial_6 lk10_60 (C10_isSheet (s := c) (by omega) (by omega) (f := (fw cT G L))) rfl rfl (by decide) (Nat.le_of_ble_eq_true rfl) ?_
  show fv_At Y10_polynomial 6 0 0 Q 9 [(0, .ref 0), (1, .int (iI c)), (2, .int (iI o)), (3, .int (nI (figs o)))] [.int (bI (isSt c))] (fw cT G L) none 0 0
  refine fn_if_eqB (tgt := 16) dX10_polynomial_9 (by decide) (fun c9 => ?_) (fun c9 => ?_)
  · skip
    refine fx_bipush (v := (iI (-2))) dX10_polynomial_16 (by decide) ?_
    exact fx_iret dX10_polynomial_18 rfl rfl rfl (by rw [hQ]; exact (by rw [show xPol c o = -2 by unfold xPol; exact if_neg (fun q => by first | omega | simp_all)]; exact qcs_n hem hC (by decide) _ _))
  · skip
    refine fx_iload_n dX10_polynomial_12 rfl (i := 3) rfl ?_
    refine fn_if_ne (tgt := 19) dX10_polynomial_13 (by decide) (by omega) (fun c13 => ?_) (fun c13 => ?_)
    · skip
      have hin : isSt c = true ∧ figs o ≠ 0 := ⟨c9, by omega⟩
      have hs1 := isSt_1 c9
      obtain ⟨c0, rfl⟩ : ∃ z : Nat, c = (z : Int) := ⟨c.toNat, by omega⟩
      have fob := figs_b (o := o) (by omega)
      obtain ⟨w, rfl⟩ : ∃ w : Nat, o = (w : Int) := ⟨o.toNat, by omega⟩
      show fv_At Y10_polynomial 6 0 0 Q 19 [(0, .ref 0), (1, .int (nI c0)), (2, .int (nI w)), (3, .int (nI (figs (w : Int))))] [] (fw cT G L) none 0 0
      refine fx_aload_n dX10_polynomial_19 rfl (i := 0) rfl ?_
      refine fw_getr dX10_polynomial_20 fd10_18 rfl rfl ?_
      refine fx_aload_n dX10_polynomial_23 rfl (i := 0) rfl ?_
      refine fw_getr dX10_polynomial_24 fd10_11 rfl rfl ?_
      refine fx_iload_n dX10_polynomial_27 rfl (i := 1) rfl ?_
      refine fw_aald (r := 51 + 3 * c0) c0 dX10_polynomial_28 rfl (by decide) rfl (by omega) (by decide) (sheets_at (by omega)) ?_
      refine fx_iload_n dX10_polynomial_29 rfl (i := 2) rfl ?_
      refine fx_iload_n dX10_polynomial_30 rfl (i := 3) rfl ?_
      refine fx_callV dX10_polynomial_31 lk10_115 fv_c0 rfl (fw_at (show cT 2 = some (3, 0, 3, [some 3, some 9, some 12]) from rfl)) (C0_compose G L hem (51 + 3 * c0) (sht_lay (by omega)) (sht_lay1 (by omega)) (sht_lay2 (by omega)) (Or.inr (by omega)) w (figs (w : Int)) (by omega) (by omega) (by omega)) rfl rfl (by decide) (Nat.le_of_ble_eq_true rfl) (by decide) (by decide) (fun r31 f31 al31 h31 => ?_)
      have hq := h31
      obtain ⟨G2, L2, rfl, rfl, rfl, -, -, -, -, -⟩ := h31
      show fv_At Y10_polynomial 6 0 0 Q 34 [(0, .ref 0), (1, .int (nI c0)), (2, .int (nI w)), (3, .int (nI (figs (w : Int))))] [.int (nI ((cpo (figs (w : Int)) w).length))] (fw cT G2 L2) none 0 0
      exact fx_iret dX10_polynomial_34 rfl rfl rfl (by rw [hQ]; exact (by rw [show xPol (c0 : Int) (w : Int) = ((cpo (figs (w : Int)) w).length : Nat) by unfold xPol; rw [if_pos hin]; rfl]; exact qcs_oc hC hq))
    · skip
      refine fx_bipush (v := (iI (-2))) dX10_polynomial_16 (by decide) ?_
      exact fx_iret dX10_polynomial_18 rfl rfl rfl (by rw [hQ]; exact (by rw [show xPol c o = -2 by unfold xPol; exact if_neg (fun q => by first | omega | simp_all)]; exact qcs_n hem hC (by decide) _ _))

set_option maxRecDepth 4000 in
set_option maxHeartbeats 1000000 in
theorem C10_part  (G : Nat → Nat → Int32) (L : Nat → Nat → Int64) (T : Nat → tms) (t : Nat → Bool) (hC : csh G T t) (hV : pvs T t) (hem : emp G L) (a o : Int) (a1 : -2147483648 ≤ a) (a2 : a < 2147483648) (o1 : -2147483648 ≤ o) (o2 : o < 2147483648) : fv_M Y10_part 7 0 0 [.ref 0, .int (iI a), .int (iI o)] (fw cT G L) none (qcl G L T t (xPar T t a o)) := by
  refine fv_enter rfl (Nat.le_of_ble_eq_true rfl) ?_
  obtain ⟨Q, hQ⟩ : ∃ Q : Option Value → fv_F → Option Nat → Prop, Q = (qcl G L T t (xPar T t a o)) := ⟨_, rfl⟩
  rw [← hQ]
  show fv_At Y10_part 7 0 0 Q 0 [(0, .ref 0), (1, .int (iI a)), (2, .int (iI o))] [] (fw cT G L) none 0 0
  have fo5 := figs_le o
  refine fx_iload_n dX10_part_0 rfl (i := 2) rfl ?_
  refine fn_cS dX10_part_1 lk10_37 (C6_figures (o := o) (by omega) (by omega) (f := (fw cT G L))) rfl rfl (by decide) (Nat.le_of_ble_eq_true rfl) ?_
  show fv_At Y10_part 7 0 0 Q 4 [(0, .ref 0), (1, .int (iI a)), (2, .int (iI o))] [.int (nI (figs o))] (fw cT G L) none 0 0
  refine fx_istore_n (lv2 := [(0, .ref 0), (1, .int (iI a)), (2, .int (iI o)), (3, .int (nI (figs o)))]) dX10_part_4 (i := 3) rfl (by decide) rfl ?_
  refine fx_iload_n dX10_part_5 rfl (i := 1) rfl ?_
  refine fn_cS dX10_part_6 lk10_60 (C10_isSheet (s := a) (by omega) (by omega) (f := (fw cT G L))) rfl rfl (by decide) (Nat.le_of_ble_eq_true rfl) ?_
  show fv_At Y10_part 7 0 0 Q 9 [(0, .ref 0), (1, .int (iI a)), (2, .int (iI o)), (3, .int (nI (figs o)))] [.int (bI (isSt a))] (fw cT G L) none 0 0
  refine fn_if_eqB (tgt := 16) dX10_part_9 (by decide) (fun c9 => ?_) (fun c9 => ?_)
  · skip
    refine fx_bipush (v := (iI (-2))) dX10_part_16 (by decide) ?_
    refine fn_cS dX10_part_18 lk10_91 (C10_refusal (c := -2)  (f := (fw cT G L))) rfl rfl (by decide) (Nat.le_of_ble_eq_true rfl) ?_
    show fv_At Y10_part 7 0 0 Q 21 [(0, .ref 0), (1, .int (iI a)), (2, .int (iI o)), (3, .int (nI (figs o)))] [.long (rfs (-2))] (fw cT G L) none 0 0
    exact fx_lret dX10_part_21 rfl rfl rfl (by rw [hQ]; exact (by rw [show xPar T t a o = rfs (-2) by unfold xPar; exact if_neg (fun q => by first | omega | simp_all)]; exact qcl_n hem hC _))
  · skip
    refine fx_iload_n dX10_part_12 rfl (i := 3) rfl ?_
    refine fn_if_ne (tgt := 22) dX10_part_13 (by decide) (by omega) (fun c13 => ?_) (fun c13 => ?_)
    · skip
      have hin : isSt a = true ∧ figs o ≠ 0 := ⟨c9, by omega⟩
      have hs1 := isSt_1 c9
      obtain ⟨a0, rfl⟩ : ∃ z : Nat, a = (z : Int) := ⟨a.toNat, by omega⟩
      have fob := figs_b (o := o) (by omega)
      obtain ⟨w, rfl⟩ : ∃ w : Nat, o = (w : Int) := ⟨o.toNat, by omega⟩
      show fv_At Y10_part 7 0 0 Q 22 [(0, .ref 0), (1, .int (nI a0)), (2, .int (nI w)), (3, .int (nI (figs (w : Int))))] [] (fw cT G L) none 0 0
      refine fx_aload_n dX10_part_22 rfl (i := 0) rfl ?_
      refine fx_iload_n dX10_part_23 rfl (i := 1) rfl ?_
      refine fn_cV dX10_part_24 lk10_67 fv_c7 rfl (fw_at (show cT 0 = some (3, 7, 4, [some 1, some 2, some 15, some 31]) from rfl)) (C10_isLost G L T t hC a0 (by omega)) rfl rfl (by decide) (Nat.le_of_ble_eq_true rfl) ?_
      show fv_At Y10_part 7 0 0 Q 27 [(0, .ref 0), (1, .int (nI a0)), (2, .int (nI w)), (3, .int (nI (figs (w : Int))))] [.int (bI (!t a0))] (fw cT G L) none 0 0
      refine fn_if_eqB (tgt := 38) dX10_part_27 (by decide) (fun c27 => ?_) (fun c27 => ?_)
      · skip
        have hta0 : t a0 = true := by simpa using c27
        refine fx_aload_n dX10_part_38 rfl (i := 0) rfl ?_
        refine fw_getr dX10_part_39 fd10_18 rfl rfl ?_
        refine fx_aload_n dX10_part_42 rfl (i := 0) rfl ?_
        refine fw_getr dX10_part_43 fd10_11 rfl rfl ?_
        refine fx_iload_n dX10_part_46 rfl (i := 1) rfl ?_
        refine fw_aald (r := 51 + 3 * a0) a0 dX10_part_47 rfl (by decide) rfl (by omega) (by decide) (sheets_at (by omega)) ?_
        refine fx_iload_n dX10_part_48 rfl (i := 2) rfl ?_
        refine fx_iload_n dX10_part_49 rfl (i := 3) rfl ?_
        refine fx_callV dX10_part_50 lk10_119 fv_c0 rfl (fw_at (show cT 2 = some (3, 0, 3, [some 3, some 9, some 12]) from rfl)) (C0_partOf G L hem (51 + 3 * a0) (sht_lay (by omega)) (sht_lay1 (by omega)) (sht_lay2 (by omega)) (by omega) (T a0) (t a0) (hC a0 (by omega)) (hV a0 (by omega) hta0).1 w (figs (w : Int)) (by omega) (by omega) (by omega)) rfl rfl (by decide) (Nat.le_of_ble_eq_true rfl) (by decide) (by decide) (fun r50 f50 al50 h50 => ?_)
        have hq := h50
        obtain ⟨G2, L2, rfl, rfl, rfl, -, -, -⟩ := h50
        show fv_At Y10_part 7 0 0 Q 53 [(0, .ref 0), (1, .int (nI a0)), (2, .int (nI w)), (3, .int (nI (figs (w : Int))))] [.long (pfq (figs (w : Int)) 10 w (T a0))] (fw cT G2 L2) none 0 0
        exact fx_lret dX10_part_53 rfl rfl rfl (by rw [hQ]; exact (by rw [show xPar T t (a0 : Int) (w : Int) = pfq (figs (w : Int)) 10 w (T a0) by unfold xPar; rw [if_pos hin]; exact if_pos hta0]; exact qcl_p hC hq))
      · skip
        refine fx_bipush (v := (iI (-3))) dX10_part_30 (by decide) ?_
        refine fn_cS dX10_part_32 lk10_91 (C10_refusal (c := -3)  (f := (fw cT G L))) rfl rfl (by decide) (Nat.le_of_ble_eq_true rfl) ?_
        show fv_At Y10_part 7 0 0 Q 35 [(0, .ref 0), (1, .int (nI a0)), (2, .int (nI w)), (3, .int (nI (figs (w : Int))))] [.long (rfs (-3))] (fw cT G L) none 0 0
        refine fx_goto (tgt := 53) dX10_part_35 (by decide) ?_
        exact fx_lret dX10_part_53 rfl rfl rfl (by rw [hQ]; exact (by rw [show xPar T t (a0 : Int) (w : Int) = rfs (-3) by unfold xPar; rw [if_pos hin]; exact if_neg (fun q => by simp_all)]; exact qcl_n hem hC _))
    · skip
      refine fx_bipush (v := (iI (-2))) dX10_part_16 (by decide) ?_
      refine fn_cS dX10_part_18 lk10_91 (C10_refusal (c := -2)  (f := (fw cT G L))) rfl rfl (by decide) (Nat.le_of_ble_eq_true rfl) ?_
      show fv_At Y10_part 7 0 0 Q 21 [(0, .ref 0), (1, .int (iI a)), (2, .int (iI o)), (3, .int (nI (figs o)))] [.long (rfs (-2))] (fw cT G L) none 0 0
      exact fx_lret dX10_part_21 rfl rfl rfl (by rw [hQ]; exact (by rw [show xPar T t a o = rfs (-2) by unfold xPar; exact if_neg (fun q => by first | omega | simp_all)]; exact qcl_n hem hC _))

set_option maxRecDepth 4000 in
set_option maxHeartbeats 1000000 in
theorem C10_constant  (G : Nat → Nat → Int32) (L : Nat → Nat → Int64) (T : Nat → tms) (t : Nat → Bool) (hC : csh G T t) (hV : pvs T t) (hem : emp G L) (u v w : Int) (u1 : -2147483648 ≤ u) (u2 : u < 2147483648) (v1 : -2147483648 ≤ v) (v2 : v < 2147483648) (w1 : -2147483648 ≤ w) (w2 : w < 2147483648) : fv_M Y10_constant 7 0 0 [.ref 0, .int (iI u), .int (iI v), .int (iI w)] (fw cT G L) none (qcl G L T t (xCon u v w)) := by
  refine fv_enter rfl (Nat.le_of_ble_eq_true rfl) ?_
  obtain ⟨Q, hQ⟩ : ∃ Q : Option Value → fv_F → Option Nat → Prop, Q = (qcl G L T t (xCon u v w)) := ⟨_, rfl⟩
  rw [← hQ]
  show fv_At Y10_constant 7 0 0 Q 0 [(0, .ref 0), (1, .int (iI u)), (2, .int (iI v)), (3, .int (iI w))] [] (fw cT G L) none 0 0
  have hu5 := figs_le u
  have hv5 := figs_le v
  have hw5 := figs_le w
  refine fx_iload_n dX10_constant_0 rfl (i := 1) rfl ?_
  refine fn_cS dX10_constant_1 lk10_37 (C6_figures (o := u) (by omega) (by omega) (f := (fw cT G L))) rfl rfl (by decide) (Nat.le_of_ble_eq_true rfl) ?_
  show fv_At Y10_constant 7 0 0 Q 4 [(0, .ref 0), (1, .int (iI u)), (2, .int (iI v)), (3, .int (iI w))] [.int (nI (figs u))] (fw cT G L) none 0 0
  refine fn_if_eq (tgt := 21) dX10_constant_4 (by decide) (by omega) (fun c4 => ?_) (fun c4 => ?_)
  · skip
    refine fx_bipush (v := (iI (-2))) dX10_constant_21 (by decide) ?_
    refine fn_cS dX10_constant_23 lk10_91 (C10_refusal (c := -2)  (f := (fw cT G L))) rfl rfl (by decide) (Nat.le_of_ble_eq_true rfl) ?_
    show fv_At Y10_constant 7 0 0 Q 26 [(0, .ref 0), (1, .int (iI u)), (2, .int (iI v)), (3, .int (iI w))] [.long (rfs (-2))] (fw cT G L) none 0 0
    exact fx_lret dX10_constant_26 rfl rfl rfl (by rw [hQ]; exact (by rw [show xCon u v w = rfs (-2) by unfold xCon; exact if_neg (fun q => by first | omega | simp_all)]; exact qcl_n hem hC _))
  · skip
    refine fx_iload_n dX10_constant_7 rfl (i := 2) rfl ?_
    refine fn_cS dX10_constant_8 lk10_37 (C6_figures (o := v) (by omega) (by omega) (f := (fw cT G L))) rfl rfl (by decide) (Nat.le_of_ble_eq_true rfl) ?_
    show fv_At Y10_constant 7 0 0 Q 11 [(0, .ref 0), (1, .int (iI u)), (2, .int (iI v)), (3, .int (iI w))] [.int (nI (figs v))] (fw cT G L) none 0 0
    refine fn_if_eq (tgt := 21) dX10_constant_11 (by decide) (by omega) (fun c11 => ?_) (fun c11 => ?_)
    · skip
      refine fx_bipush (v := (iI (-2))) dX10_constant_21 (by decide) ?_
      refine fn_cS dX10_constant_23 lk10_91 (C10_refusal (c := -2)  (f := (fw cT G L))) rfl rfl (by decide) (Nat.le_of_ble_eq_true rfl) ?_
      show fv_At Y10_constant 7 0 0 Q 26 [(0, .ref 0), (1, .int (iI u)), (2, .int (iI v)), (3, .int (iI w))] [.long (rfs (-2))] (fw cT G L) none 0 0
      exact fx_lret dX10_constant_26 rfl rfl rfl (by rw [hQ]; exact (by rw [show xCon u v w = rfs (-2) by unfold xCon; exact if_neg (fun q => by first | omega | simp_all)]; exact qcl_n hem hC _))
    · skip
      refine fx_iload_n dX10_constant_14 rfl (i := 3) rfl ?_
      refine fn_cS dX10_constant_15 lk10_37 (C6_figures (o := w) (by omega) (by omega) (f := (fw cT G L))) rfl rfl (by decide) (Nat.le_of_ble_eq_true rfl) ?_
      show fv_At Y10_constant 7 0 0 Q 18 [(0, .ref 0), (1, .int (iI u)), (2, .int (iI v)), (3, .int (iI w))] [.int (nI (figs w))] (fw cT G L) none 0 0
      refine fn_if_ne (tgt := 27) dX10_constant_18 (by decide) (by omega) (fun c18 => ?_) (fun c18 => ?_)
      · skip
        have hin : figs u ≠ 0 ∧ figs v ≠ 0 ∧ figs w ≠ 0 := ⟨by omega, by omega, by omega⟩
        have hb1 := figs_b hin.1
        have hb2 := figs_b hin.2.1
        have hb3 := figs_b hin.2.2
        obtain ⟨u0, rfl⟩ : ∃ z : Nat, u = (z : Int) := ⟨u.toNat, by omega⟩
        obtain ⟨v0, rfl⟩ : ∃ z : Nat, v = (z : Int) := ⟨v.toNat, by omega⟩
        obtain ⟨w0, rfl⟩ : ∃ z : Nat, w = (z : Int) := ⟨w.toNat, by omega⟩
        show fv_At Y10_constant 7 0 0 Q 27 [(0, .ref 0), (1, .int (nI u0)), (2, .int (nI v0)), (3, .int (nI w0))] [] (fw cT G L) none 0 0
        refine fx_aload_n dX10_constant_27 rfl (i := 0) rfl ?_
        refine fw_getr dX10_constant_28 fd10_18 rfl rfl ?_
        refine fx_iload_n dX10_constant_31 rfl (i := 1) rfl ?_
        refine fx_iload_n dX10_constant_32 rfl (i := 2) rfl ?_
        refine fx_iload_n dX10_constant_33 rfl (i := 3) rfl ?_
        refine fx_callV dX10_constant_34 lk10_123 fv_c0 rfl (fw_at (show cT 2 = some (3, 0, 3, [some 3, some 9, some 12]) from rfl)) (C0_partOfProduct G L hem u0 v0 w0 hin.1 hin.2.1 hin.2.2) rfl rfl (by decide) (Nat.le_of_ble_eq_true rfl) (by decide) (by decide) (fun r34 f34 al34 h34 => ?_)
        have hq := h34
        obtain ⟨G2, L2, rfl, rfl, rfl, -, -, -⟩ := h34
        show fv_At Y10_constant 7 0 0 Q 37 [(0, .ref 0), (1, .int (nI u0)), (2, .int (nI v0)), (3, .int (nI w0))] [.long (ppr u0 v0 w0)] (fw cT G2 L2) none 0 0
        exact fx_lret dX10_constant_37 rfl rfl rfl (by rw [hQ]; exact (by rw [show xCon (u0 : Int) (v0 : Int) (w0 : Int) = ppr u0 v0 w0 by unfold xCon; rw [if_pos hin]; rfl]; exact qcl_r hC hq))
      · skip
        refine fx_bipush (v := (iI (-2))) dX10_constant_21 (by decide) ?_
        refine fn_cS dX10_constant_23 lk10_91 (C10_refusal (c := -2)  (f := (fw cT G L))) rfl rfl (by decide) (Nat.le_of_ble_eq_true rfl) ?_
        show fv_At Y10_constant 7 0 0 Q 26 [(0, .ref 0), (1, .int (iI u)), (2, .int (iI v)), (3, .int (iI w))] [.long (rfs (-2))] (fw cT G L) none 0 0
        exact fx_lret dX10_constant_26 rfl rfl rfl (by rw [hQ]; exact (by rw [show xCon u v w = rfs (-2) by unfold xCon; exact if_neg (fun q => by first | omega | simp_all)]; exact qcl_n hem hC _))

set_option maxRecDepth 4000 in
set_option maxHeartbeats 1000000 in
theorem C10_same  (G : Nat → Nat → Int32) (L : Nat → Nat → Int64) (T : Nat → tms) (t : Nat → Bool) (hC : csh G T t) (a b : Int) (a1 : -2147483648 ≤ a) (a2 : a < 2147483648) (b1 : -2147483648 ≤ b) (b2 : b < 2147483648) : fv_M Y10_same 2 0 0 [.ref 0, .int (iI a), .int (iI b)] (fw cT G L) none (fv_eq (some (.int (iI (xSam T t a b)))) (fw cT G L)) := by
  refine fv_enter rfl (Nat.le_of_ble_eq_true rfl) ?_
  obtain ⟨Q, hQ⟩ : ∃ Q : Option Value → fv_F → Option Nat → Prop, Q = (fv_eq (some (.int (iI (xSam T t a b)))) (fw cT G L)) := ⟨_, rfl⟩
  rw [← hQ]
  show fv_At Y10_same 2 0 0 Q 0 [(0, .ref 0), (1, .int (iI a)), (2, .int (iI b))] [] (fw cT G L) none 0 0
  refine fx_iload_n dX10_same_0 rfl (i := 1) rfl ?_
  refine fn_cS dX10_same_1 lk10_60 (C10_isSheet (s := a) (by omega) (by omega) (f := (fw cT G L))) rfl rfl (by decide) (Nat.le_of_ble_eq_true rfl) ?_
  show fv_At Y10_same 2 0 0 Q 4 [(0, .ref 0), (1, .int (iI a)), (2, .int (iI b))] [.int (bI (isSt a))] (fw cT G L) none 0 0
  refine fn_if_eqB (tgt := 14) dX10_same_4 (by decide) (fun c4 => ?_) (fun c4 => ?_)
  · skip
    refine fx_bipush (v := (iI (-2))) dX10_same_14 (by decide) ?_
    exact fx_iret dX10_same_16 rfl rfl rfl (by rw [hQ]; exact ⟨by unfold xSam; rw [if_neg (fun q => by simp_all)], rfl, rfl⟩)
  · skip
    refine fx_iload_n dX10_same_7 rfl (i := 2) rfl ?_
    refine fn_cS dX10_same_8 lk10_60 (C10_isSheet (s := b) (by omega) (by omega) (f := (fw cT G L))) rfl rfl (by decide) (Nat.le_of_ble_eq_true rfl) ?_
    show fv_At Y10_same 2 0 0 Q 11 [(0, .ref 0), (1, .int (iI a)), (2, .int (iI b))] [.int (bI (isSt b))] (fw cT G L) none 0 0
    refine fn_if_neB (tgt := 17) dX10_same_11 (by decide) (fun c11 => ?_) (fun c11 => ?_)
    · skip
      have hin : isSt a = true ∧ isSt b = true := ⟨c4, c11⟩
      have hs1 := isSt_1 c4
      have hs2 := isSt_1 c11
      obtain ⟨a0, rfl⟩ : ∃ z : Nat, a = (z : Int) := ⟨a.toNat, by omega⟩
      obtain ⟨b0, rfl⟩ : ∃ z : Nat, b = (z : Int) := ⟨b.toNat, by omega⟩
      show fv_At Y10_same 2 0 0 Q 17 [(0, .ref 0), (1, .int (nI a0)), (2, .int (nI b0))] [] (fw cT G L) none 0 0
      refine fx_aload_n dX10_same_17 rfl (i := 0) rfl ?_
      refine fx_iload_n dX10_same_18 rfl (i := 1) rfl ?_
      refine fn_cV dX10_same_19 lk10_67 fv_c7 rfl (fw_at (show cT 0 = some (3, 7, 4, [some 1, some 2, some 15, some 31]) from rfl)) (C10_isLost G L T t hC a0 (by omega)) rfl rfl (by decide) (Nat.le_of_ble_eq_true rfl) ?_
      show fv_At Y10_same 2 0 0 Q 22 [(0, .ref 0), (1, .int (nI a0)), (2, .int (nI b0))] [.int (bI (!t a0))] (fw cT G L) none 0 0
      refine fn_if_neB (tgt := 33) dX10_same_22 (by decide) (fun c22 => ?_) (fun c22 => ?_)
      · skip
        refine fx_bipush (v := (iI (-3))) dX10_same_33 (by decide) ?_
        exact fx_iret dX10_same_35 rfl rfl rfl (by rw [hQ]; exact ⟨by unfold xSam; rw [if_pos hin, if_neg (fun q => by simp_all)], rfl, rfl⟩)
      · skip
        refine fx_aload_n dX10_same_25 rfl (i := 0) rfl ?_
        refine fx_iload_n dX10_same_26 rfl (i := 2) rfl ?_
        refine fn_cV dX10_same_27 lk10_67 fv_c7 rfl (fw_at (show cT 0 = some (3, 7, 4, [some 1, some 2, some 15, some 31]) from rfl)) (C10_isLost G L T t hC b0 (by omega)) rfl rfl (by decide) (Nat.le_of_ble_eq_true rfl) ?_
        show fv_At Y10_same 2 0 0 Q 30 [(0, .ref 0), (1, .int (nI a0)), (2, .int (nI b0))] [.int (bI (!t b0))] (fw cT G L) none 0 0
        refine fn_if_eqB (tgt := 36) dX10_same_30 (by decide) (fun c30 => ?_) (fun c30 => ?_)
        · skip
          have hta0 : t a0 = true := by simpa using c22
          have htb0 : t b0 = true := by simpa using c30
          refine fx_aload_n dX10_same_36 rfl (i := 0) rfl ?_
          refine fw_getr dX10_same_37 fd10_11 rfl rfl ?_
          refine fx_iload_n dX10_same_40 rfl (i := 1) rfl ?_
          refine fw_aald (r := 51 + 3 * a0) a0 dX10_same_41 rfl (by decide) rfl (by omega) (by decide) (sheets_at (by omega)) ?_
          refine fx_aload_n dX10_same_42 rfl (i := 0) rfl ?_
          refine fw_getr dX10_same_43 fd10_11 rfl rfl ?_
          refine fx_iload_n dX10_same_46 rfl (i := 2) rfl ?_
          refine fw_aald (r := 51 + 3 * b0) b0 dX10_same_47 rfl (by decide) rfl (by omega) (by decide) (sheets_at (by omega)) ?_
          refine fn_cV dX10_same_48 lk10_127 fv_c4 rfl (fw_at (sht_lay (by omega))) (C7_isLike cT (51 + 3 * a0) (sht_lay (by omega)) (sht_lay1 (by omega)) (sht_lay2 (by omega)) (51 + 3 * b0) (sht_lay (by omega)) (sht_lay1 (by omega)) (sht_lay2 (by omega)) G L (T a0) (t a0) (hC a0 (by omega)) (T b0) (t b0) (hC b0 (by omega))) rfl rfl (by decide) (Nat.le_of_ble_eq_true rfl) ?_
          show fv_At Y10_same 2 0 0 Q 51 [(0, .ref 0), (1, .int (nI a0)), (2, .int (nI b0))] [.int (bI (decide (T a0 = T b0)))] (fw cT G L) none 0 0
          refine fn_if_eqB (tgt := 58) dX10_same_51 (by decide) (fun c51 => ?_) (fun c51 => ?_)
          · skip
            refine fx_iconst (v := (nI 0)) dX10_same_58 (by decide) ?_
            exact fx_iret dX10_same_59 rfl rfl rfl (by rw [hQ]; exact ⟨by unfold xSam; rw [if_pos hin, if_pos ⟨hta0, htb0⟩]; first | (rw [if_pos (show T (a0 : Int).toNat = T (b0 : Int).toNat from of_decide_eq_true c51)]; rfl) | (rw [if_neg (show ¬ (T (a0 : Int).toNat = T (b0 : Int).toNat) from of_decide_eq_false c51)]; rfl), rfl, rfl⟩)
          · skip
            refine fx_iconst (v := (nI 1)) dX10_same_54 (by decide) ?_
            refine fx_goto (tgt := 59) dX10_same_55 (by decide) ?_
            exact fx_iret dX10_same_59 rfl rfl rfl (by rw [hQ]; exact ⟨by unfold xSam; rw [if_pos hin, if_pos ⟨hta0, htb0⟩]; first | (rw [if_pos (show T (a0 : Int).toNat = T (b0 : Int).toNat from of_decide_eq_true c51)]; rfl) | (rw [if_neg (show ¬ (T (a0 : Int).toNat = T (b0 : Int).toNat) from of_decide_eq_false c51)]; rfl), rfl, rfl⟩)
        · skip
          refine fx_bipush (v := (iI (-3))) dX10_same_33 (by decide) ?_
          exact fx_iret dX10_same_35 rfl rfl rfl (by rw [hQ]; exact ⟨by unfold xSam; rw [if_pos hin, if_neg (fun q => by simp_all)], rfl, rfl⟩)
    · skip
      refine fx_bipush (v := (iI (-2))) dX10_same_14 (by decide) ?_
      exact fx_iret dX10_same_16 rfl rfl rfl (by rw [hQ]; exact ⟨by unfold xSam; rw [if_neg (fun q => by simp_all)], rfl, rfl⟩)
