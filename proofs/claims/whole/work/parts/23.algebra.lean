/-- the pot is empty -/
def emp (G : Nat → Nat → Int32) (L : Nat → Nat → Int64) : Prop := (∀ c, c ≤ 88888 → L 4 c = 0) ∧ ∀ b, b < 889 → G 5 b = bI false
def zS : Nat → Int64 := fun _ => 0
/-- an answer; the sheet at p has these terms, or nothing is changed; the pot is empty again -/
def qop (G : Nat → Nat → Int32) (L : Nat → Nat → Int64) (p : Nat) (v : Int) (ts : tms) : Option Value → fv_F → Option Nat → Prop := fun r2 f2 al2 => ∃ (G2 : Nat → Nat → Int32) (L2 : Nat → Nat → Int64), r2 = some (.int (iI v)) ∧ f2 = fw cT G2 L2 ∧ al2 = none ∧ emp G2 L2 ∧ (∀ i, i ≠ 4 → L2 i = L i) ∧
  (∀ i, i ≠ 3 → i ≠ 5 → i ≠ 6 → i ≠ 7 → i ≠ 8 → i ≠ p → i ≠ p + 1 → i ≠ p + 2 → G2 i = G i) ∧ (v < 0 → ∀ i, i ≠ 3 → i ≠ 5 → i ≠ 6 → i ≠ 7 → i ≠ 8 → G2 i = G i) ∧ (0 ≤ v → pat G2 p ts true)
theorem emp_pok {G : Nat → Nat → Int32} {L : Nat → Nat → Int64} (h : emp G L) : pok (G 5) (L 4) := ⟨fun b hb => ⟨false, h.2 b hb⟩, fun c hc hn => absurd (h.1 c hc) hn⟩
def eqS (S S2 : Nat → Int64) : Prop := ∀ c, c ≤ 88888 → S c = S2 c
theorem eqS_z {G : Nat → Nat → Int32} {L : Nat → Nat → Int64} (h : emp G L) : eqS (L 4) zS := fun c hc => h.1 c hc
theorem eqS_ad {S S2 : Nat → Int64} (h : eqS S S2) {c : Nat} (x : Int64) (hc : c ≤ 88888) : eqS (adS S c x) (adS S2 c x) := by
  intro d hd
  unfold adS upS
  rw [h c hc, h d hd]
theorem eqS_pal {m : Int64} : ∀ {ts : tms} {S S2 : Nat → Int64}, eqS S S2 → txs ts → eqS (pal m ts S) (pal m ts S2)
  | [], _, _, h, _ => h
  | q :: r, _, _, h, hx => eqS_pal (ts := r) (eqS_ad h _ (hx 0 (by simp))) (fun j hj => hx (j + 1) (by simp; exact hj))
theorem eqS_dwn {S S2 : Nat → Int64} (h : eqS S S2) : dwn S 88889 88888 = dwn S2 88889 88888 := dwn_cong _ _ (fun j hj _ => h j hj) (by decide)
theorem eqS_stl {S S2 : Nat → Int64} (h : eqS S S2) : stl S = stl S2 ∧ trm S = trm S2 := by
  unfold stl trm
  rw [eqS_dwn h]
  exact ⟨rfl, rfl⟩
theorem qop_of {G : Nat → Nat → Int32} {L : Nat → Nat → Int64} {U : Nat → Int32} {S S2 : Nat → Int64} {p : Nat} {r : Option Value} {f : fv_F} {al : Option Nat} (h : qse (rw5 G U) L S p r f al) (he : eqS S S2) : qop G L p (stl S2) (trm S2) r f al := by
  obtain ⟨G2, S3, h1, h2, h3, h4, h5, h6, h7, h8⟩ := h
  rw [← (eqS_stl he).1, ← (eqS_stl he).2]
  refine ⟨G2, rwL L S3, h1, h2, h3, ⟨h4, h5⟩, fun i hi => if_neg hi, fun i a1 a2 a3 a4 a5 a6 a7 a8 => (h6 i a1 a2 a3 a4 a5 a6 a7 a8).trans (rw5_ne a2), fun hv i a1 a2 a3 a4 a5 => (h7 hv i a1 a2 a3 a4 a5).trans (rw5_ne a2), h8⟩
theorem fw_self (G : Nat → Nat → Int32) (L : Nat → Nat → Int64) : fw cT G L = fw cT (rw5 G (G 5)) (rwL L (L 4)) := by rw [rw5_self, rwL_self]

set_option maxRecDepth 4000 in
set_option maxHeartbeats 1000000 in
theorem C0_join  (G : Nat → Nat → Int32) (L : Nat → Nat → Int64) (hem : emp G L) (p : Nat) (hp : cT p = some (3, 4, 4, [some (p + 1), some (p + 2), none, none])) (hp1 : cT (p + 1) = some (0, 0, 600, [])) (hp2 : cT (p + 2) = some (0, 0, 600, [])) (hne : p + 3 ≤ 6 ∨ 9 ≤ p) (ts : tms) (t : Bool) (hP : pat G p ts t) (hx : txs ts) (x : Int64) (c : Nat) (hc : c ≤ 88888) : fv_M Y0_join 3 0 0 [.ref 2, .ref p, .long x, .int (nI c)] (fw cT G L) none (qop G L p (stl (adS (pal 1 ts zS) c x)) (trm (adS (pal 1 ts zS) c x))) := by
  refine fv_enter rfl (Nat.le_of_ble_eq_true rfl) ?_
  obtain ⟨Q, hQ⟩ : ∃ Q : Option Value → fv_F → Option Nat → Prop, Q = (qop G L p (stl (adS (pal 1 ts zS) c x)) (trm (adS (pal 1 ts zS) c x))) := ⟨_, rfl⟩
  rw [← hQ]
  show fv_At Y0_join 3 0 0 Q 0 [(0, .ref 2), (1, .ref p), (2, .long x), (4, .int (nI c))] [] (fw cT G L) none 0 0
  rw [fw_self]
  refine fx_aload_n dX0_join_0 rfl (i := 0) rfl ?_
  refine fw_getr dX0_join_1 fd0_12 rfl rfl ?_
  refine fx_aload_n dX0_join_4 rfl (i := 1) rfl ?_
  refine fx_lconst (v := 1) dX0_join_5 (by decide) ?_
  refine fx_callV dX0_join_6 lk0_28 fv_c5 rfl (fw_at (show cT 3 = some (3, 5, 5, [some 4, some 5, some 6, none, none]) from rfl)) (C8_pourAll G L (G 5) (L 4) (emp_pok hem) p hp hp1 hp2 ts t hP hx 1) rfl rfl (by decide) (Nat.le_of_ble_eq_true rfl) (by decide) (by decide) (fun r6 f6 al6 h6 => ?_)
  obtain ⟨U1, rfl, rfl, rfl, hok1⟩ := h6
  show fv_At Y0_join 3 0 0 Q 9 [(0, .ref 2), (1, .ref p), (2, .long x), (4, .int (nI c))] [] (fw cT (rw5 G U1) (rwL L (pal 1 ts (L 4)))) none 0 0
  refine fx_aload_n dX0_join_9 rfl (i := 0) rfl ?_
  refine fw_getr dX0_join_10 fd0_12 rfl rfl ?_
  refine fx_iload dX0_join_13 rfl ?_
  refine fx_lload_n dX0_join_15 rfl (i := 2) rfl ?_
  refine fn_cV dX0_join_16 lk0_32 fv_c5 rfl (fw_at (show cT 3 = some (3, 5, 5, [some 4, some 5, some 6, none, none]) from rfl)) (C8_pour G L U1 (pal 1 ts (L 4)) c x hc) rfl rfl (by decide) (Nat.le_of_ble_eq_true rfl) ?_
  show fv_At Y0_join 3 0 0 Q 19 [(0, .ref 2), (1, .ref p), (2, .long x), (4, .int (nI c))] [] (fw cT (rw5 G (upU U1 (c / 100) (bI true))) (rwL L (adS (pal 1 ts (L 4)) c x))) none 0 0
  refine fx_aload_n dX0_join_19 rfl (i := 0) rfl ?_
  refine fw_getr dX0_join_20 fd0_12 rfl rfl ?_
  refine fx_aload_n dX0_join_23 rfl (i := 1) rfl ?_
  refine fx_callV dX0_join_24 lk0_36 fv_c5 rfl (fw_at (show cT 3 = some (3, 5, 5, [some 4, some 5, some 6, none, none]) from rfl)) (C8_settle (rw5 G (upU U1 (c / 100) (bI true))) L (adS (pal 1 ts (L 4)) c x) (pok_ad hok1 _ _) p hp hp1 hp2 hne) rfl rfl (by decide) (Nat.le_of_ble_eq_true rfl) (by decide) (by decide) (fun r24 f24 al24 h24 => ?_)
  have hq := h24
  obtain ⟨G2, S2, rfl, rfl, rfl, -, -, -, -, -⟩ := h24
  show fv_At Y0_join 3 0 0 Q 27 [(0, .ref 2), (1, .ref p), (2, .long x), (4, .int (nI c))] [.int (iI (stl (adS (pal 1 ts (L 4)) c x)))] (fw cT G2 (rwL L S2)) none 0 0
  exact fx_iret dX0_join_27 rfl rfl rfl (by rw [hQ]; exact qop_of hq (eqS_ad (eqS_pal (eqS_z hem) hx) _ hc))

set_option maxRecDepth 4000 in
set_option maxHeartbeats 1000000 in
theorem C0_combine  (G : Nat → Nat → Int32) (L : Nat → Nat → Int64) (hem : emp G L) (p : Nat) (hp : cT p = some (3, 4, 4, [some (p + 1), some (p + 2), none, none])) (hp1 : cT (p + 1) = some (0, 0, 600, [])) (hp2 : cT (p + 2) = some (0, 0, 600, [])) (hne : p + 3 ≤ 6 ∨ 9 ≤ p) (p2 : Nat) (hq : cT p2 = some (3, 4, 4, [some (p2 + 1), some (p2 + 2), none, none])) (hq1 : cT (p2 + 1) = some (0, 0, 600, [])) (hq2 : cT (p2 + 2) = some (0, 0, 600, [])) (p3 : Nat) (hr : cT p3 = some (3, 4, 4, [some (p3 + 1), some (p3 + 2), none, none])) (hr1 : cT (p3 + 1) = some (0, 0, 600, [])) (hr2 : cT (p3 + 2) = some (0, 0, 600, [])) (ts : tms) (t : Bool) (hP : pat G p2 ts t) (hx : txs ts) (us : tms) (u : Bool) (hU : pat G p3 us u) (hy : txs us) (m : Int) : fv_M Y0_combine 3 0 0 [.ref 2, .ref p, .ref p2, .ref p3, .int (iI m)] (fw cT G L) none (qop G L p (stl (pal (iI m).toInt64 us (pal 1 ts zS))) (trm (pal (iI m).toInt64 us (pal 1 ts zS)))) := by
  refine fv_enter rfl (Nat.le_of_ble_eq_true rfl) ?_
  obtain ⟨Q, hQ⟩ : ∃ Q : Option Value → fv_F → Option Nat → Prop, Q = (qop G L p (stl (pal (iI m).toInt64 us (pal 1 ts zS))) (trm (pal (iI m).toInt64 us (pal 1 ts zS)))) := ⟨_, rfl⟩
  rw [← hQ]
  show fv_At Y0_combine 3 0 0 Q 0 [(0, .ref 2), (1, .ref p), (2, .ref p2), (3, .ref p3), (4, .int (iI m))] [] (fw cT G L) none 0 0
  rw [fw_self]
  refine fx_aload_n dX0_combine_0 rfl (i := 0) rfl ?_
  refine fw_getr dX0_combine_1 fd0_12 rfl rfl ?_
  refine fx_aload_n dX0_combine_4 rfl (i := 2) rfl ?_
  refine fx_lconst (v := 1) dX0_combine_5 (by decide) ?_
  refine fx_callV dX0_combine_6 lk0_28 fv_c5 rfl (fw_at (show cT 3 = some (3, 5, 5, [some 4, some 5, some 6, none, none]) from rfl)) (C8_pourAll G L (G 5) (L 4) (emp_pok hem) p2 hq hq1 hq2 ts t hP hx 1) rfl rfl (by decide) (Nat.le_of_ble_eq_true rfl) (by decide) (by decide) (fun r6 f6 al6 h6 => ?_)
  obtain ⟨U1, rfl, rfl, rfl, hok1⟩ := h6
  show fv_At Y0_combine 3 0 0 Q 9 [(0, .ref 2), (1, .ref p), (2, .ref p2), (3, .ref p3), (4, .int (iI m))] [] (fw cT (rw5 G U1) (rwL L (pal 1 ts (L 4)))) none 0 0
  refine fx_aload_n dX0_combine_9 rfl (i := 0) rfl ?_
  refine fw_getr dX0_combine_10 fd0_12 rfl rfl ?_
  refine fx_aload_n dX0_combine_13 rfl (i := 3) rfl ?_
  refine fx_iload dX0_combine_14 rfl ?_
  refine fx_i2l dX0_combine_16 ?_
  refine fx_callV dX0_combine_17 lk0_28 fv_c5 rfl (fw_at (show cT 3 = some (3, 5, 5, [some 4, some 5, some 6, none, none]) from rfl)) (C8_pourAll G L U1 (pal 1 ts (L 4)) hok1 p3 hr hr1 hr2 us u hU hy ((((iI m)).toInt64))) rfl rfl (by decide) (Nat.le_of_ble_eq_true rfl) (by decide) (by decide) (fun r17 f17 al17 h17 => ?_)
  obtain ⟨U2, rfl, rfl, rfl, hok2⟩ := h17
  show fv_At Y0_combine 3 0 0 Q 20 [(0, .ref 2), (1, .ref p), (2, .ref p2), (3, .ref p3), (4, .int (iI m))] [] (fw cT (rw5 G U2) (rwL L (pal ((((iI m)).toInt64)) us (pal 1 ts (L 4))))) none 0 0
  refine fx_aload_n dX0_combine_20 rfl (i := 0) rfl ?_
  refine fw_getr dX0_combine_21 fd0_12 rfl rfl ?_
  refine fx_aload_n dX0_combine_24 rfl (i := 1) rfl ?_
  refine fx_callV dX0_combine_25 lk0_36 fv_c5 rfl (fw_at (show cT 3 = some (3, 5, 5, [some 4, some 5, some 6, none, none]) from rfl)) (C8_settle (rw5 G U2) L (pal ((((iI m)).toInt64)) us (pal 1 ts (L 4))) hok2 p hp hp1 hp2 hne) rfl rfl (by decide) (Nat.le_of_ble_eq_true rfl) (by decide) (by decide) (fun r25 f25 al25 h25 => ?_)
  have hq := h25
  obtain ⟨G2, S2, rfl, rfl, rfl, -, -, -, -, -⟩ := h25
  show fv_At Y0_combine 3 0 0 Q 28 [(0, .ref 2), (1, .ref p), (2, .ref p2), (3, .ref p3), (4, .int (iI m))] [.int (iI (stl (pal ((((iI m)).toInt64)) us (pal 1 ts (L 4)))))] (fw cT G2 (rwL L S2)) none 0 0
  exact fx_iret dX0_combine_28 rfl rfl rfl (by rw [hQ]; exact qop_of hq (eqS_pal (eqS_pal (eqS_z hem) hx) hy))

def thl (ts us : tms) : Nat → Nat → Bool
  | 0, _ => false
  | k + 1, l => if 8 < tpl l ts 0 + tpl l us 0 then true else thl ts us k (l + 1)
/-- some letter has too much together -/
def thi (ts us : tms) : Bool := thl ts us 5 1
def pm2 (c : Nat) (m : Int64) : tms → (Nat → Int64) → Nat → Int64
  | [], S => S
  | q :: r, S => pm2 c m r (adS S (c + q.1) (m * q.2.toInt64))
def pml (us : tms) : tms → (Nat → Int64) → Nat → Int64
  | [], S => S
  | q :: r, S => pml us r (pm2 q.1 q.2.toInt64 us S)
def psw (i : Nat) : tms → (Nat → Int64) → Nat → Int64
  | [], S => S
  | q :: r, S => psw i r (adS S (swp q.1 5 i (i + 1)) q.2.toInt64)
theorem eqS_pm2 {c : Nat} {m : Int64} : ∀ {us : tms} {S S2 : Nat → Int64}, eqS S S2 → (∀ j, j < us.length → c + tx us j ≤ 88888) → eqS (pm2 c m us S) (pm2 c m us S2)
  | [], _, _, h, _ => h
  | q :: r, _, _, h, hx => eqS_pm2 (us := r) (eqS_ad h _ (hx 0 (by simp))) (fun j hj => hx (j + 1) (by simp; exact hj))
theorem eqS_pml {us : tms} : ∀ {ts : tms} {S S2 : Nat → Int64}, eqS S S2 → (∀ i, i < ts.length → ∀ j, j < us.length → tx ts i + tx us j ≤ 88888) → eqS (pml us ts S) (pml us ts S2)
  | [], _, _, h, _ => h
  | q :: r, _, _, h, hx => eqS_pml (ts := r) (eqS_pm2 h (hx 0 (by simp))) (fun i hi => hx (i + 1) (by simp; exact hi))
theorem eqS_psw {i : Nat} : ∀ {ts : tms} {S S2 : Nat → Int64}, eqS S S2 → (∀ j, j < ts.length → swp (tx ts j) 5 i (i + 1) ≤ 88888) → eqS (psw i ts S) (psw i ts S2)
  | [], _, _, h, _ => h
  | q :: r, _, _, h, hx => eqS_psw (ts := r) (eqS_ad h _ (hx 0 (by simp))) (fun j hj => hx (j + 1) (by simp; exact hj))

set_option maxRecDepth 4000 in
set_option maxHeartbeats 1000000 in
theorem C0_isTooHigh  (G : Nat → Nat → Int32) (L : Nat → Nat → Int64) (p2 : Nat) (hq : cT p2 = some (3, 4, 4, [some (p2 + 1), some (p2 + 2), none, none])) (hq1 : cT (p2 + 1) = some (0, 0, 600, [])) (hq2 : cT (p2 + 2) = some (0, 0, 600, [])) (p3 : Nat) (hr : cT p3 = some (3, 4, 4, [some (p3 + 1), some (p3 + 2), none, none])) (hr1 : cT (p3 + 1) = some (0, 0, 600, [])) (hr2 : cT (p3 + 2) = some (0, 0, 600, [])) (ts : tms) (t : Bool) (hP : pat G p2 ts t) (us : tms) (u : Bool) (hU : pat G p3 us u) : fv_M Y0_isTooHigh 3 0 0 [.ref p2, .ref p3] (fw cT G L) none (fv_eq (some (.int (bI (thi ts us)))) (fw cT G L)) := by
  refine fv_enter rfl (Nat.le_of_ble_eq_true rfl) ?_
  obtain ⟨Q, hQ⟩ : ∃ Q : Option Value → fv_F → Option Nat → Prop, Q = (fv_eq (some (.int (bI (thi ts us)))) (fw cT G L)) := ⟨_, rfl⟩
  rw [← hQ]
  show fv_At Y0_isTooHigh 3 0 0 Q 0 [(0, .ref p2), (1, .ref p3)] [] (fw cT G L) none 0 0
  refine fx_iconst (v := (nI 1)) dX0_isTooHigh_0 (by decide) ?_
  refine fx_istore_n (lv2 := [(0, .ref p2), (1, .ref p3), (2, .int (nI 1))]) dX0_isTooHigh_1 (i := 2) rfl (by decide) rfl ?_
  have L2 : ∀ (k : Nat) (l : Nat), (l + k = 6) → (thl ts us k l = thi ts us) → fv_At Y0_isTooHigh 3 0 0 Q 2 [(0, .ref p2), (1, .ref p3), (2, .int (nI l))] [] (fw cT G L) none 0 0 := by
    intro k
    induction k with
    | zero =>
      intro l hl hR
      refine fx_iload_n dX0_isTooHigh_2 rfl (i := 2) rfl ?_
      refine fx_iconst (v := (nI 5)) dX0_isTooHigh_3 (by decide) ?_
      refine fn_icmp_gt (tgt := 31) dX0_isTooHigh_4 (by decide) (by omega) (by omega) (fun c4 => ?_) (fun c4 => ?_)
      · skip
        refine fx_iconst (v := (nI 0)) dX0_isTooHigh_31 (by decide) ?_
        refine fn_to (show _ = (bI false) from rfl) ?_
        exact fx_zret dX0_isTooHigh_32 rfl (bI_01 _) rfl rfl (by rw [hQ]; exact ⟨by rw [← hR]; rfl, rfl, rfl⟩)
      · exfalso; omega
    | succ k ih2 =>
      intro l hl hR
      refine fx_iload_n dX0_isTooHigh_2 rfl (i := 2) rfl ?_
      refine fx_iconst (v := (nI 5)) dX0_isTooHigh_3 (by decide) ?_
      refine fn_icmp_gt (tgt := 31) dX0_isTooHigh_4 (by decide) (by omega) (by omega) (fun c4 => ?_) (fun c4 => ?_)
      · exfalso; omega
      · skip
        refine fx_aload_n dX0_isTooHigh_7 rfl (i := 0) rfl ?_
        refine fx_iload_n dX0_isTooHigh_8 rfl (i := 2) rfl ?_
        refine fn_cV dX0_isTooHigh_9 lk0_55 fv_c4 rfl (fw_at hq) (C7_topExponent cT p2 hq hq1 hq2 G L ts t hP l (by omega)) rfl rfl (by decide) (Nat.le_of_ble_eq_true rfl) ?_
        show fv_At Y0_isTooHigh 3 0 0 Q 12 [(0, .ref p2), (1, .ref p3), (2, .int (nI l))] [.int (nI (tpl l ts 0))] (fw cT G L) none 0 0
        refine fx_aload_n dX0_isTooHigh_12 rfl (i := 1) rfl ?_
        refine fx_iload_n dX0_isTooHigh_13 rfl (i := 2) rfl ?_
        refine fn_cV dX0_isTooHigh_14 lk0_55 fv_c4 rfl (fw_at hr) (C7_topExponent cT p3 hr hr1 hr2 G L us u hU l (by omega)) rfl rfl (by decide) (Nat.le_of_ble_eq_true rfl) ?_
        show fv_At Y0_isTooHigh 3 0 0 Q 17 [(0, .ref p2), (1, .ref p3), (2, .int (nI l))] [.int (nI (tpl l us 0)), .int (nI (tpl l ts 0))] (fw cT G L) none 0 0
        refine fn_iadd dX0_isTooHigh_17 ?_
        have h1 := tpl_lt l ts 0 (by decide)
        have h2 := tpl_lt l us 0 (by decide)
        refine fx_bipush (v := (nI 8)) dX0_isTooHigh_18 (by decide) ?_
        refine fn_icmp_le (tgt := 25) dX0_isTooHigh_20 (by decide) (by omega) (by omega) (fun c20 => ?_) (fun c20 => ?_)
        · skip
          refine fn_iinc (c := 1) (lv2 := [(0, .ref p2), (1, .ref p3), (2, .int (nI (l + 1)))]) dX0_isTooHigh_25 (by decide) rfl (by decide) rfl ?_
          refine fx_goto (tgt := 2) dX0_isTooHigh_28 (by decide) ?_
          exact (ih2 (l + 1) (by omega) (by rw [← hR, thl, if_neg (by omega)]))
        · skip
          refine fx_iconst (v := (nI 1)) dX0_isTooHigh_23 (by decide) ?_
          refine fn_to (show _ = (bI true) from rfl) ?_
          exact fx_zret dX0_isTooHigh_24 rfl (bI_01 _) rfl rfl (by rw [hQ]; exact ⟨by rw [← hR, thl, if_pos (by omega)], rfl, rfl⟩)
  exact (L2 5 1 (by omega) rfl)

set_option maxRecDepth 4000 in
set_option maxHeartbeats 1000000 in
theorem C0_multiply  (G : Nat → Nat → Int32) (L : Nat → Nat → Int64) (hem : emp G L) (p : Nat) (hp : cT p = some (3, 4, 4, [some (p + 1), some (p + 2), none, none])) (hp1 : cT (p + 1) = some (0, 0, 600, [])) (hp2 : cT (p + 2) = some (0, 0, 600, [])) (hne : p + 3 ≤ 6 ∨ 9 ≤ p) (p2 : Nat) (hq : cT p2 = some (3, 4, 4, [some (p2 + 1), some (p2 + 2), none, none])) (hq1 : cT (p2 + 1) = some (0, 0, 600, [])) (hq2 : cT (p2 + 2) = some (0, 0, 600, [])) (p3 : Nat) (hr : cT p3 = some (3, 4, 4, [some (p3 + 1), some (p3 + 2), none, none])) (hr1 : cT (p3 + 1) = some (0, 0, 600, [])) (hr2 : cT (p3 + 2) = some (0, 0, 600, [])) (ts : tms) (t : Bool) (hP : pat G p2 ts t) (us : tms) (u : Bool) (hU : pat G p3 us u) (hxy : thi ts us = false → ∀ i, i < ts.length → ∀ j, j < us.length → tx ts i + tx us j ≤ 88888) : fv_M Y0_multiply 4 0 0 [.ref 2, .ref p, .ref p2, .ref p3] (fw cT G L) none (qop G L p (if thi ts us = true then -4 else stl (pml us ts zS)) (trm (pml us ts zS))) := by
  refine fv_enter rfl (Nat.le_of_ble_eq_true rfl) ?_
  obtain ⟨Q, hQ⟩ : ∃ Q : Option Value → fv_F → Option Nat → Prop, Q = (qop G L p (if thi ts us = true then -4 else stl (pml us ts zS)) (trm (pml us ts zS))) := ⟨_, rfl⟩
  rw [← hQ]
  show fv_At Y0_multiply 4 0 0 Q 0 [(0, .ref 2), (1, .ref p), (2, .ref p2), (3, .ref p3)] [] (fw cT G L) none 0 0
  refine fx_aload_n dX0_multiply_0 rfl (i := 2) rfl ?_
  refine fx_aload_n dX0_multiply_1 rfl (i := 3) rfl ?_
  refine fn_cS dX0_multiply_2 lk0_40 (C0_isTooHigh G L p2 hq hq1 hq2 p3 hr hr1 hr2 ts t hP us u hU) rfl rfl (by decide) (Nat.le_of_ble_eq_true rfl) ?_
  show fv_At Y0_multiply 4 0 0 Q 5 [(0, .ref 2), (1, .ref p), (2, .ref p2), (3, .ref p3)] [.int (bI (thi ts us))] (fw cT G L) none 0 0
  refine fn_if_eqB (tgt := 11) dX0_multiply_5 (by decide) (fun c5 => ?_) (fun c5 => ?_)
  · skip
    rw [fw_self]
    have hxy2 := hxy c5
    have h6 := hP.1
    have h7 := hU.1
    refine fx_iconst (v := (nI 0)) dX0_multiply_11 (by decide) ?_
    refine fx_istore (lv2 := [(0, .ref 2), (1, .ref p), (2, .ref p2), (3, .ref p3), (4, .int (nI 0))]) dX0_multiply_12 (by decide) rfl ?_
    have L14 : ∀ (k : Nat) (i : Nat) (U1 : Nat → Int32) (S1 : Nat → Int64), (i + k = ts.length) → (pok U1 S1) → (pml us (ts.drop i) S1 = pml us ts (L 4)) → fv_At Y0_multiply 4 0 0 Q 14 [(0, .ref 2), (1, .ref p), (2, .ref p2), (3, .ref p3), (4, .int (nI i))] [] (fw cT (rw5 G U1) (rwL L S1)) none 0 0 := by
      intro k
      induction k with
      | zero =>
        intro i U1 S1 hi hok1 hR
        refine fx_iload dX0_multiply_14 rfl ?_
        refine fx_aload_n dX0_multiply_16 rfl (i := 2) rfl ?_
        refine fn_cV dX0_multiply_17 lk0_44 fv_c4 rfl (fw_at hq) (C7_size cT p2 hq hq1 hq2 (rw5 G U1) (rwL L S1) ts t (pat_5 hq hq1 hq2 hP)  ) rfl rfl (by decide) (Nat.le_of_ble_eq_true rfl) ?_
        show fv_At Y0_multiply 4 0 0 Q 20 [(0, .ref 2), (1, .ref p), (2, .ref p2), (3, .ref p3), (4, .int (nI i))] [.int (nI ts.length), .int (nI i)] (fw cT (rw5 G U1) (rwL L S1)) none 0 0
        refine fn_icmp_ge (tgt := 86) dX0_multiply_20 (by decide) (by omega) (by omega) (fun c20 => ?_) (fun c20 => ?_)
        · skip
          refine fx_aload_n dX0_multiply_86 rfl (i := 0) rfl ?_
          refine fw_getr dX0_multiply_87 fd0_12 rfl rfl ?_
          refine fx_aload_n dX0_multiply_90 rfl (i := 1) rfl ?_
          refine fx_callV dX0_multiply_91 lk0_36 fv_c5 rfl (fw_at (show cT 3 = some (3, 5, 5, [some 4, some 5, some 6, none, none]) from rfl)) (C8_settle (rw5 G U1) L S1 hok1 p hp hp1 hp2 hne) rfl rfl (by decide) (Nat.le_of_ble_eq_true rfl) (by decide) (by decide) (fun r91 f91 al91 h91 => ?_)
          have hq := h91
          obtain ⟨G2, S2, rfl, rfl, rfl, -, -, -, -, -⟩ := h91
          show fv_At Y0_multiply 4 0 0 Q 94 [(0, .ref 2), (1, .ref p), (2, .ref p2), (3, .ref p3), (4, .int (nI i))] [.int (iI (stl S1))] (fw cT G2 (rwL L S2)) none 0 0
          exact fx_iret dX0_multiply_94 rfl rfl rfl (by rw [hQ]; exact (by rw [if_neg (by rw [c5]; decide)]; exact qop_of hq (fun c hc => by have e : S1 = pml us ts (L 4) := (by rw [← hR, List.drop_eq_nil_of_le (by omega)]; rfl); rw [e]; exact eqS_pml (eqS_z hem) hxy2 c hc)))
        · exfalso; omega
      | succ k ih14 =>
        intro i U1 S1 hi hok1 hR
        refine fx_iload dX0_multiply_14 rfl ?_
        refine fx_aload_n dX0_multiply_16 rfl (i := 2) rfl ?_
        refine fn_cV dX0_multiply_17 lk0_44 fv_c4 rfl (fw_at hq) (C7_size cT p2 hq hq1 hq2 (rw5 G U1) (rwL L S1) ts t (pat_5 hq hq1 hq2 hP)  ) rfl rfl (by decide) (Nat.le_of_ble_eq_true rfl) ?_
        show fv_At Y0_multiply 4 0 0 Q 20 [(0, .ref 2), (1, .ref p), (2, .ref p2), (3, .ref p3), (4, .int (nI i))] [.int (nI ts.length), .int (nI i)] (fw cT (rw5 G U1) (rwL L S1)) none 0 0
        refine fn_icmp_ge (tgt := 86) dX0_multiply_20 (by decide) (by omega) (by omega) (fun c20 => ?_) (fun c20 => ?_)
        · exfalso; omega
        · skip
          refine fx_aload_n dX0_multiply_23 rfl (i := 2) rfl ?_
          refine fx_iload dX0_multiply_24 rfl ?_
          refine fn_cV dX0_multiply_26 lk0_48 fv_c4 rfl (fw_at hq) (C7_numberAt cT p2 hq hq1 hq2 (rw5 G U1) (rwL L S1) ts t (pat_5 hq hq1 hq2 hP) i (by omega)) rfl rfl (by decide) (Nat.le_of_ble_eq_true rfl) ?_
          show fv_At Y0_multiply 4 0 0 Q 29 [(0, .ref 2), (1, .ref p), (2, .ref p2), (3, .ref p3), (4, .int (nI i))] [.int (tn ts i)] (fw cT (rw5 G U1) (rwL L S1)) none 0 0
          refine fx_i2l dX0_multiply_29 ?_
          refine fx_lstore (lv2 := [(0, .ref 2), (1, .ref p), (2, .ref p2), (3, .ref p3), (4, .int (nI i)), (5, .long (((tn ts i)).toInt64))]) dX0_multiply_30 (by decide) rfl ?_
          refine fx_iconst (v := (nI 0)) dX0_multiply_32 (by decide) ?_
          refine fx_istore (lv2 := [(0, .ref 2), (1, .ref p), (2, .ref p2), (3, .ref p3), (4, .int (nI i)), (5, .long (((tn ts i)).toInt64)), (7, .int (nI 0))]) dX0_multiply_33 (by decide) rfl ?_
          have L35 : ∀ (k2 : Nat) (j : Nat) (U2 : Nat → Int32) (S2 : Nat → Int64), (j + k2 = us.length) → (pok U2 S2) → (pm2 (tx ts i) (tn ts i).toInt64 (us.drop j) S2 = pm2 (tx ts i) (tn ts i).toInt64 us S1) → fv_At Y0_multiply 4 0 0 Q 35 [(0, .ref 2), (1, .ref p), (2, .ref p2), (3, .ref p3), (4, .int (nI i)), (5, .long (((tn ts i)).toInt64)), (7, .int (nI j))] [] (fw cT (rw5 G U2) (rwL L S2)) none 0 0 := by
            intro k2
            induction k2 with
            | zero =>
              intro j U2 S2 hj hok2 hR2
              refine fx_iload dX0_multiply_35 rfl ?_
              refine fx_aload_n dX0_multiply_37 rfl (i := 3) rfl ?_
              refine fn_cV dX0_multiply_38 lk0_44 fv_c4 rfl (fw_at hr) (C7_size cT p3 hr hr1 hr2 (rw5 G U2) (rwL L S2) us u (pat_5 hr hr1 hr2 hU)  ) rfl rfl (by decide) (Nat.le_of_ble_eq_true rfl) ?_
              show fv_At Y0_multiply 4 0 0 Q 41 [(0, .ref 2), (1, .ref p), (2, .ref p2), (3, .ref p3), (4, .int (nI i)), (5, .long (((tn ts i)).toInt64)), (7, .int (nI j))] [.int (nI us.length), .int (nI j)] (fw cT (rw5 G U2) (rwL L S2)) none 0 0
              refine fn_icmp_ge (tgt := 80) dX0_multiply_41 (by decide) (by omega) (by omega) (fun c41 => ?_) (fun c41 => ?_)
              · skip
                refine fn_iinc (c := 1) (lv2 := [(0, .ref 2), (1, .ref p), (2, .ref p2), (3, .ref p3), (4, .int (nI (i + 1))), (5, .long (((tn ts i)).toInt64)), (7, .int (nI j))]) dX0_multiply_80 (by decide) rfl (by decide) rfl ?_
                refine fx_goto (tgt := 14) dX0_multiply_83 (by decide) ?_
                exact fn_sub [0, 1, 2, 3, 4] rfl (ih14 (i + 1) U2 S2 (by omega) hok2 (by rw [← hR, drD (show i < ts.length by omega), pml]; rw [List.drop_eq_nil_of_le (show us.length ≤ j by omega)] at hR2; exact congrArg (pml us (ts.drop (i + 1))) hR2))
              · exfalso; omega
            | succ k2 ih35 =>
              intro j U2 S2 hj hok2 hR2
              refine fx_iload dX0_multiply_35 rfl ?_
              refine fx_aload_n dX0_multiply_37 rfl (i := 3) rfl ?_
              refine fn_cV dX0_multiply_38 lk0_44 fv_c4 rfl (fw_at hr) (C7_size cT p3 hr hr1 hr2 (rw5 G U2) (rwL L S2) us u (pat_5 hr hr1 hr2 hU)  ) rfl rfl (by decide) (Nat.le_of_ble_eq_true rfl) ?_
              show fv_At Y0_multiply 4 0 0 Q 41 [(0, .ref 2), (1, .ref p), (2, .ref p2), (3, .ref p3), (4, .int (nI i)), (5, .long (((tn ts i)).toInt64)), (7, .int (nI j))] [.int (nI us.length), .int (nI j)] (fw cT (rw5 G U2) (rwL L S2)) none 0 0
              refine fn_icmp_ge (tgt := 80) dX0_multiply_41 (by decide) (by omega) (by omega) (fun c41 => ?_) (fun c41 => ?_)
              · exfalso; omega
              · skip
                refine fx_aload_n dX0_multiply_44 rfl (i := 0) rfl ?_
                refine fw_getr dX0_multiply_45 fd0_12 rfl rfl ?_
                refine fx_aload_n dX0_multiply_48 rfl (i := 2) rfl ?_
                refine fx_iload dX0_multiply_49 rfl ?_
                refine fn_cV dX0_multiply_51 lk0_52 fv_c4 rfl (fw_at hq) (C7_exponentsAt cT p2 hq hq1 hq2 (rw5 G U2) (rwL L S2) ts t (pat_5 hq hq1 hq2 hP) i (by omega)) rfl rfl (by decide) (Nat.le_of_ble_eq_true rfl) ?_
                show fv_At Y0_multiply 4 0 0 Q 54 [(0, .ref 2), (1, .ref p), (2, .ref p2), (3, .ref p3), (4, .int (nI i)), (5, .long (((tn ts i)).toInt64)), (7, .int (nI j))] [.int (nI (tx ts i)), .ref 3] (fw cT (rw5 G U2) (rwL L S2)) none 0 0
                refine fx_aload_n dX0_multiply_54 rfl (i := 3) rfl ?_
                refine fx_iload dX0_multiply_55 rfl ?_
                refine fn_cV dX0_multiply_57 lk0_52 fv_c4 rfl (fw_at hr) (C7_exponentsAt cT p3 hr hr1 hr2 (rw5 G U2) (rwL L S2) us u (pat_5 hr hr1 hr2 hU) j (by omega)) rfl rfl (by decide) (Nat.le_of_ble_eq_true rfl) ?_
                show fv_At Y0_multiply 4 0 0 Q 60 [(0, .ref 2), (1, .ref p), (2, .ref p2), (3, .ref p3), (4, .int (nI i)), (5, .long (((tn ts i)).toInt64)), (7, .int (nI j))] [.int (nI (tx us j)), .int (nI (tx ts i)), .ref 3] (fw cT (rw5 G U2) (rwL L S2)) none 0 0
                refine fn_iadd dX0_multiply_60 ?_
                refine fx_lload dX0_multiply_61 rfl ?_
                refine fx_aload_n dX0_multiply_63 rfl (i := 3) rfl ?_
                refine fx_iload dX0_multiply_64 rfl ?_
                refine fn_cV dX0_multiply_66 lk0_48 fv_c4 rfl (fw_at hr) (C7_numberAt cT p3 hr hr1 hr2 (rw5 G U2) (rwL L S2) us u (pat_5 hr hr1 hr2 hU) j (by omega)) rfl rfl (by decide) (Nat.le_of_ble_eq_true rfl) ?_
                show fv_At Y0_multiply 4 0 0 Q 69 [(0, .ref 2), (1, .ref p), (2, .ref p2), (3, .ref p3), (4, .int (nI i)), (5, .long (((tn ts i)).toInt64)), (7, .int (nI j))] [.int (tn us j), .long (((tn ts i)).toInt64), .int (nI ((tx ts i) + (tx us j))), .ref 3] (fw cT (rw5 G U2) (rwL L S2)) none 0 0
                refine fx_i2l dX0_multiply_69 ?_
                refine fx_lmul dX0_multiply_70 ?_
                refine fn_cV dX0_multiply_71 lk0_32 fv_c5 rfl (fw_at (show cT 3 = some (3, 5, 5, [some 4, some 5, some 6, none, none]) from rfl)) (C8_pour G L U2 S2 ((tx ts i) + (tx us j)) ((((((tn ts i)).toInt64)) * ((((tn us j)).toInt64)))) (hxy2 i (by omega) j (by omega))) rfl rfl (by decide) (Nat.le_of_ble_eq_true rfl) ?_
                show fv_At Y0_multiply 4 0 0 Q 74 [(0, .ref 2), (1, .ref p), (2, .ref p2), (3, .ref p3), (4, .int (nI i)), (5, .long (((tn ts i)).toInt64)), (7, .int (nI j))] [] (fw cT (rw5 G (upU U2 (((tx ts i) + (tx us j)) / 100) (bI true))) (rwL L (adS S2 ((tx ts i) + (tx us j)) ((((((tn ts i)).toInt64)) * ((((tn us j)).toInt64))))))) none 0 0
                refine fn_iinc (c := 1) (lv2 := [(0, .ref 2), (1, .ref p), (2, .ref p2), (3, .ref p3), (4, .int (nI i)), (5, .long (((tn ts i)).toInt64)), (7, .int (nI (j + 1)))]) dX0_multiply_74 (by decide) rfl (by decide) rfl ?_
                refine fx_goto (tgt := 35) dX0_multiply_77 (by decide) ?_
                exact (ih35 (j + 1) ((upU U2 (((tx ts i) + (tx us j)) / 100) (bI true))) ((adS S2 ((tx ts i) + (tx us j)) ((((((tn ts i)).toInt64)) * ((((tn us j)).toInt64)))))) (by omega) (pok_ad hok2 _ _) (by rw [← hR2, drD (show j < us.length by omega), pm2]))
          exact (L35 us.length 0 U1 S1 (by omega) hok1 rfl)
    exact (L14 ts.length 0 ((G 5)) ((L 4)) (by omega) (emp_pok hem) rfl)
  · skip
    refine fx_bipush (v := (iI (-4))) dX0_multiply_8 (by decide) ?_
    exact fx_iret dX0_multiply_10 rfl rfl rfl (by rw [hQ]; exact (by rw [if_pos c5]; exact ⟨G, L, rfl, rfl, rfl, hem, fun _ _ => rfl, fun _ _ _ _ _ _ _ _ _ => rfl, fun _ _ _ _ _ _ _ => rfl, fun h => absurd h (by decide)⟩))

set_option maxRecDepth 4000 in
set_option maxHeartbeats 1000000 in
theorem C0_swapLetters  (G : Nat → Nat → Int32) (L : Nat → Nat → Int64) (hem : emp G L) (p : Nat) (hp : cT p = some (3, 4, 4, [some (p + 1), some (p + 2), none, none])) (hp1 : cT (p + 1) = some (0, 0, 600, [])) (hp2 : cT (p + 2) = some (0, 0, 600, [])) (hne : p + 3 ≤ 6 ∨ 9 ≤ p) (p2 : Nat) (hq : cT p2 = some (3, 4, 4, [some (p2 + 1), some (p2 + 2), none, none])) (hq1 : cT (p2 + 1) = some (0, 0, 600, [])) (hq2 : cT (p2 + 2) = some (0, 0, 600, [])) (ts : tms) (t : Bool) (hP : pat G p2 ts t) (i : Nat) (hi : i < 4) (hsw : ∀ j, j < ts.length → swp (tx ts j) 5 i (i + 1) ≤ 88888) : fv_M Y0_swapLetters 4 0 0 [.ref 2, .ref p, .ref p2, .int (nI (i + 1))] (fw cT G L) none (qop G L p (stl (psw i ts zS)) (trm (psw i ts zS))) := by
  refine fv_enter rfl (Nat.le_of_ble_eq_true rfl) ?_
  obtain ⟨Q, hQ⟩ : ∃ Q : Option Value → fv_F → Option Nat → Prop, Q = (qop G L p (stl (psw i ts zS)) (trm (psw i ts zS))) := ⟨_, rfl⟩
  rw [← hQ]
  show fv_At Y0_swapLetters 4 0 0 Q 0 [(0, .ref 2), (1, .ref p), (2, .ref p2), (3, .int (nI (i + 1)))] [] (fw cT G L) none 0 0
  rw [fw_self]
  have h6 := hP.1
  refine fx_iconst (v := (nI 0)) dX0_swapLetters_0 (by decide) ?_
  refine fx_istore (lv2 := [(0, .ref 2), (1, .ref p), (2, .ref p2), (3, .int (nI (i + 1))), (4, .int (nI 0))]) dX0_swapLetters_1 (by decide) rfl ?_
  have L3 : ∀ (k : Nat) (j : Nat) (U1 : Nat → Int32) (S1 : Nat → Int64), (j + k = ts.length) → (pok U1 S1) → (psw i (ts.drop j) S1 = psw i ts (L 4)) → fv_At Y0_swapLetters 4 0 0 Q 3 [(0, .ref 2), (1, .ref p), (2, .ref p2), (3, .int (nI (i + 1))), (4, .int (nI j))] [] (fw cT (rw5 G U1) (rwL L S1)) none 0 0 := by
    intro k
    induction k with
    | zero =>
      intro j U1 S1 hj hok1 hR
      refine fx_iload dX0_swapLetters_3 rfl ?_
      refine fx_aload_n dX0_swapLetters_5 rfl (i := 2) rfl ?_
      refine fn_cV dX0_swapLetters_6 lk0_44 fv_c4 rfl (fw_at hq) (C7_size cT p2 hq hq1 hq2 (rw5 G U1) (rwL L S1) ts t (pat_5 hq hq1 hq2 hP)  ) rfl rfl (by decide) (Nat.le_of_ble_eq_true rfl) ?_
      show fv_At Y0_swapLetters 4 0 0 Q 9 [(0, .ref 2), (1, .ref p), (2, .ref p2), (3, .int (nI (i + 1))), (4, .int (nI j))] [.int (nI ts.length), .int (nI j)] (fw cT (rw5 G U1) (rwL L S1)) none 0 0
      refine fn_icmp_ge (tgt := 46) dX0_swapLetters_9 (by decide) (by omega) (by omega) (fun c9 => ?_) (fun c9 => ?_)
      · skip
        refine fx_aload_n dX0_swapLetters_46 rfl (i := 0) rfl ?_
        refine fw_getr dX0_swapLetters_47 fd0_12 rfl rfl ?_
        refine fx_aload_n dX0_swapLetters_50 rfl (i := 1) rfl ?_
        refine fx_callV dX0_swapLetters_51 lk0_36 fv_c5 rfl (fw_at (show cT 3 = some (3, 5, 5, [some 4, some 5, some 6, none, none]) from rfl)) (C8_settle (rw5 G U1) L S1 hok1 p hp hp1 hp2 hne) rfl rfl (by decide) (Nat.le_of_ble_eq_true rfl) (by decide) (by decide) (fun r51 f51 al51 h51 => ?_)
        have hq := h51
        obtain ⟨G2, S2, rfl, rfl, rfl, -, -, -, -, -⟩ := h51
        show fv_At Y0_swapLetters 4 0 0 Q 54 [(0, .ref 2), (1, .ref p), (2, .ref p2), (3, .int (nI (i + 1))), (4, .int (nI j))] [.int (iI (stl S1))] (fw cT G2 (rwL L S2)) none 0 0
        exact fx_iret dX0_swapLetters_54 rfl rfl rfl (by rw [hQ]; exact qop_of hq (fun c hc => by have e : S1 = psw i ts (L 4) := (by rw [← hR, List.drop_eq_nil_of_le (by omega)]; rfl); rw [e]; exact eqS_psw (eqS_z hem) hsw c hc))
      · exfalso; omega
    | succ k ih3 =>
      intro j U1 S1 hj hok1 hR
      refine fx_iload dX0_swapLetters_3 rfl ?_
      refine fx_aload_n dX0_swapLetters_5 rfl (i := 2) rfl ?_
      refine fn_cV dX0_swapLetters_6 lk0_44 fv_c4 rfl (fw_at hq) (C7_size cT p2 hq hq1 hq2 (rw5 G U1) (rwL L S1) ts t (pat_5 hq hq1 hq2 hP)  ) rfl rfl (by decide) (Nat.le_of_ble_eq_true rfl) ?_
      show fv_At Y0_swapLetters 4 0 0 Q 9 [(0, .ref 2), (1, .ref p), (2, .ref p2), (3, .int (nI (i + 1))), (4, .int (nI j))] [.int (nI ts.length), .int (nI j)] (fw cT (rw5 G U1) (rwL L S1)) none 0 0
      refine fn_icmp_ge (tgt := 46) dX0_swapLetters_9 (by decide) (by omega) (by omega) (fun c9 => ?_) (fun c9 => ?_)
      · exfalso; omega
      · skip
        refine fx_aload_n dX0_swapLetters_12 rfl (i := 0) rfl ?_
        refine fw_getr dX0_swapLetters_13 fd0_12 rfl rfl ?_
        refine fx_aload_n dX0_swapLetters_16 rfl (i := 2) rfl ?_
        refine fx_iload dX0_swapLetters_17 rfl ?_
        refine fn_cV dX0_swapLetters_19 lk0_52 fv_c4 rfl (fw_at hq) (C7_exponentsAt cT p2 hq hq1 hq2 (rw5 G U1) (rwL L S1) ts t (pat_5 hq hq1 hq2 hP) j (by omega)) rfl rfl (by decide) (Nat.le_of_ble_eq_true rfl) ?_
        show fv_At Y0_swapLetters 4 0 0 Q 22 [(0, .ref 2), (1, .ref p), (2, .ref p2), (3, .int (nI (i + 1))), (4, .int (nI j))] [.int (nI (tx ts j)), .ref 3] (fw cT (rw5 G U1) (rwL L S1)) none 0 0
        refine fx_iconst (v := (nI 5)) dX0_swapLetters_22 (by decide) ?_
        refine fx_iload_n dX0_swapLetters_23 rfl (i := 3) rfl ?_
        refine fx_iload_n dX0_swapLetters_24 rfl (i := 3) rfl ?_
        refine fx_iconst (v := (nI 1)) dX0_swapLetters_25 (by decide) ?_
        refine fn_iadd dX0_swapLetters_26 ?_
        have h5 := (hP.2.2.2 j (by omega)).2.2
        refine fn_cS dX0_swapLetters_27 lk0_58 (C6_swapped (o := tx ts j) (n := 5) (a := i) (b := i + 1) (by omega) (by omega) (by omega) (by omega) (f := (fw cT (rw5 G U1) (rwL L S1)))) rfl rfl (by decide) (Nat.le_of_ble_eq_true rfl) ?_
        show fv_At Y0_swapLetters 4 0 0 Q 30 [(0, .ref 2), (1, .ref p), (2, .ref p2), (3, .int (nI (i + 1))), (4, .int (nI j))] [.int (nI (swp (tx ts j) 5 i (i + 1))), .ref 3] (fw cT (rw5 G U1) (rwL L S1)) none 0 0
        refine fx_aload_n dX0_swapLetters_30 rfl (i := 2) rfl ?_
        refine fx_iload dX0_swapLetters_31 rfl ?_
        refine fn_cV dX0_swapLetters_33 lk0_48 fv_c4 rfl (fw_at hq) (C7_numberAt cT p2 hq hq1 hq2 (rw5 G U1) (rwL L S1) ts t (pat_5 hq hq1 hq2 hP) j (by omega)) rfl rfl (by decide) (Nat.le_of_ble_eq_true rfl) ?_
        show fv_At Y0_swapLetters 4 0 0 Q 36 [(0, .ref 2), (1, .ref p), (2, .ref p2), (3, .int (nI (i + 1))), (4, .int (nI j))] [.int (tn ts j), .int (nI (swp (tx ts j) 5 i (i + 1))), .ref 3] (fw cT (rw5 G U1) (rwL L S1)) none 0 0
        refine fx_i2l dX0_swapLetters_36 ?_
        refine fn_cV dX0_swapLetters_37 lk0_32 fv_c5 rfl (fw_at (show cT 3 = some (3, 5, 5, [some 4, some 5, some 6, none, none]) from rfl)) (C8_pour G L U1 S1 (swp (tx ts j) 5 i (i + 1)) ((((tn ts j)).toInt64)) (hsw j (by omega))) rfl rfl (by decide) (Nat.le_of_ble_eq_true rfl) ?_
        show fv_At Y0_swapLetters 4 0 0 Q 40 [(0, .ref 2), (1, .ref p), (2, .ref p2), (3, .int (nI (i + 1))), (4, .int (nI j))] [] (fw cT (rw5 G (upU U1 ((swp (tx ts j) 5 i (i + 1)) / 100) (bI true))) (rwL L (adS S1 (swp (tx ts j) 5 i (i + 1)) ((((tn ts j)).toInt64))))) none 0 0
        refine fn_iinc (c := 1) (lv2 := [(0, .ref 2), (1, .ref p), (2, .ref p2), (3, .int (nI (i + 1))), (4, .int (nI (j + 1)))]) dX0_swapLetters_40 (by decide) rfl (by decide) rfl ?_
        refine fx_goto (tgt := 3) dX0_swapLetters_43 (by decide) ?_
        exact (ih3 (j + 1) ((upU U1 ((swp (tx ts j) 5 i (i + 1)) / 100) (bI true))) ((adS S1 (swp (tx ts j) 5 i (i + 1)) ((((tn ts j)).toInt64)))) (by omega) (pok_ad hok1 _ _) (by rw [← hR, drD (show j < ts.length by omega), psw]))
  exact (L3 ts.length 0 ((G 5)) ((L 4)) (by omega) (emp_pok hem) rfl)
