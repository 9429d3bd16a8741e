theorem cpl_p {q : Nat} (hq : q = 2 ∨ q = 3 ∨ q = 5) : (mprs q (esq q)).Perm (cpl q) := by
  rcases hq with rfl | rfl | rfl
  · exact List.isPerm_iff.mp tt2
  · exact List.isPerm_iff.mp tt3
  · exact List.isPerm_iff.mp tt5
def cok (q : Nat) (f s : Nat) : Bool := (List.range' 0 (q ^ (2 - f))).all (fun o => (List.range' 0 (q ^ (3 - s))).all (fun x => isPt q ((pfr q f (s : Int) o : Nat) : Int) && isPt q ((pfr q s (-1) x : Nat) : Int) && (evq q (pin q (pfr q f (s : Int) o)) == pin q (pfr q f (s : Int) o)) && (evq q (pin q (pfr q s (-1) x)) == pin q (pfr q s (-1) x)) && (pin q (pfr q f (s : Int) o) != pin q (pfr q s (-1) x))))
def ckk (q : Nat) : Bool := cok q 0 1 && cok q 0 2 && cok q 0 3 && cok q 1 2 && cok q 1 3 && cok q 2 3
theorem ckk_k : ckk 2 = true ∧ ckk 3 = true ∧ ckk 5 = true := by decide +kernel
/-- how many of a list's pairs, a smaller than x, are of a kind -/
def lsm (P : Nat → Nat → Bool) : List Nat → Nat
  | [] => 0
  | a :: t => (t.filter (fun x => P a x)).length + lsm P t
theorem gd_drop {E : List Nat} {j : Nat} (h : j < E.length) : E.drop j = E.getD j 0 :: E.drop (j + 1) := by
  rw [List.drop_eq_getElem_cons h, List.getD_eq_getElem?_getD, List.getElem?_eq_getElem h]
  rfl
theorem lnI_l (q : Nat) (R : Nat → Nat) (b : Nat) (E : List Nat) (a : Nat) : ∀ n j c, j + n = E.length → lnI q R b E a n j c = c + ((E.drop j).filter (fun x => lcd q R b a x)).length
  | 0, j, c, h => by
    rw [List.drop_eq_nil_of_le (by omega)]
    rfl
  | n + 1, j, c, h => by
    rw [lnI_s, lnI_l q R b E a n (j + 1) _ (by omega), gd_drop (show j < E.length by omega), List.filter_cons]
    by_cases w : lcd q R b a (E.getD j 0) = true
    · rw [if_pos w, if_pos w, List.length_cons]
      omega
    · rw [if_neg w, if_neg w]
      omega
theorem lnO_l (q : Nat) (R : Nat → Nat) (b : Nat) (E : List Nat) : ∀ n i c, i + n = E.length → lnO q R b E n i c = c + lsm (lcd q R b) (E.drop i)
  | 0, i, c, h => by
    rw [List.drop_eq_nil_of_le (by omega)]
    rfl
  | n + 1, i, c, h => by
    rw [lnO_s, lnO_l q R b E n (i + 1) _ (by omega), lnI_l q R b E _ _ _ _ (by omega), gd_drop (show i < E.length by omega)]
    show _ = c + (((E.drop (i + 1)).filter (fun x => lcd q R b (E.getD i 0) x)).length + lsm (lcd q R b) (E.drop (i + 1)))
    omega
theorem lsm_m (q : Nat) (P : Nat → Nat → Bool) : ∀ E : List Nat, (∀ x ∈ E, x < 625) → lsm (fun a x => alq q a x (q + 1) 0 && P a x) E = ((mprs q E).filter (fun z => P (z / 625) (z % 625))).length
  | [], _ => rfl
  | a :: t, h => by
    have ih := lsm_m q P t (fun x hx => h x (List.mem_cons_of_mem _ hx))
    show (t.filter (fun x => alq q a x (q + 1) 0 && P a x)).length + _ = (((t.filter (fun x => alq q a x (q + 1) 0)).map (fun x => a * 625 + x) ++ mprs q t).filter (fun z => P (z / 625) (z % 625))).length
    rw [ih, List.filter_append, List.length_append, List.filter_map, List.length_map, List.filter_filter]
    congr 2
    refine List.filter_congr (fun x hx => ?_)
    have hx2 := h x (List.mem_cons_of_mem _ hx)
    show (alq q a x (q + 1) 0 && P a x) = (P ((a * 625 + x) / 625) ((a * 625 + x) % 625) && alq q a x (q + 1) 0)
    rw [show (a * 625 + x) / 625 = a by omega, show (a * 625 + x) % 625 = x by omega, Bool.and_comm]
def pqm (q : Nat) (ra rb : Nat → Nat) (b a x : Nat) : Bool := decide (mtq q a x (rdq q ra rb b) (q + 1) 0 0 &&& b = b)
theorem pin_v {q : Nat} (hq : q = 2 ∨ q = 3 ∨ q = 5) {c : Nat} (h : isPt q (c : Int) = true) : vpt q c (pin q c) := by
  rcases pqo_t hq (c : Int) with w | w
  · rw [Int.toNat_natCast] at w
    obtain ⟨_, x, hx, hv⟩ := w
    unfold pin
    rw [hx, Int.toNat_natCast]
    exact hv
  · exact absurd (h.symm.trans w.1) (by decide)
theorem cok_e {q f s : Nat} (h : cok q f s = true) {o x : Nat} (ho : o < q ^ (2 - f)) (hx : x < q ^ (3 - s)) : isPt q ((pfr q f (s : Int) o : Nat) : Int) = true ∧ isPt q ((pfr q s (-1) x : Nat) : Int) = true ∧ evq q (pin q (pfr q f (s : Int) o)) = pin q (pfr q f (s : Int) o) ∧ evq q (pin q (pfr q s (-1) x)) = pin q (pfr q s (-1) x) ∧ pin q (pfr q f (s : Int) o) ≠ pin q (pfr q s (-1) x) := by
  have w := List.all_eq_true.mp (List.all_eq_true.mp h o (List.mem_range'_1.mpr ⟨Nat.zero_le _, by omega⟩)) x (List.mem_range'_1.mpr ⟨Nat.zero_le _, by omega⟩)
  rw [Bool.and_eq_true, Bool.and_eq_true, Bool.and_eq_true, Bool.and_eq_true] at w
  exact ⟨w.1.1.1.1, w.1.1.1.2, beq_iff_eq.mp w.1.1.2, beq_iff_eq.mp w.1.2, bne_iff_ne.mp w.2⟩
theorem cal_q {q : Nat} (hq : q = 2 ∨ q = 3 ∨ q = 5) {rs : Nat → Nat → Nat} {ra rb : Nat → Nat} {b : Nat} (hb : b < 256) (h : ∀ r, r < 8 → btd b r = true → rdl q (rs r) (ra r) (rb r)) {f s : Nat} (hc : cok q f s = true) {o x : Nat} (ho : o < q ^ (2 - f)) (hx : x < q ^ (3 - s)) : cal rs q (pln (pfr q f (s : Int) o) (pfr q s (-1) x) q) b 8 0 = pqm q ra rb b (pin q (pfr q s (-1) x)) (pin q (pfr q f (s : Int) o)) := by
  obtain ⟨i1, i2, n1, n2, ne⟩ := cok_e hc ho hx
  have v1 := pin_v hq i1
  have v2 := pin_v hq i2
  have hp : ldf (plk (pfr q f (s : Int) o) (pfr q s (-1) x) q) ≠ 0 := (plk_0 hq v1 v2).mpr (by rw [n1, n2]; exact ne)
  have hr := rdl_of hq v1 v2 hp
  rw [n1, n2] at hr
  have hsw : ∀ z, onP q (pin q (pfr q f (s : Int) o)) (pin q (pfr q s (-1) x)) z ↔ onP q (pin q (pfr q s (-1) x)) (pin q (pfr q f (s : Int) o)) z := fun z => ⟨onP_sw hq v1.1 v2.1 v1.2.1 hr.2.2.1, onP_sw hq v2.1 v1.1 v2.2.1 (ind_sw hr.2.2.1)⟩
  unfold pqm
  rw [Bool.eq_iff_iff, cal_e, decide_eq_true_iff, mtq_q q ra rb hb]
  constructor
  · intro w t ht hbt
    obtain ⟨z, z1, z2⟩ := (crx_q hq hr (h t ht hbt)).mp (w t (Nat.zero_le _) (by omega) hbt)
    exact ⟨z, (hsw z).mp z1, z2⟩
  · intro w t _ ht hbt
    obtain ⟨z, z1, z2⟩ := w t (by omega) hbt
    exact (crx_q hq hr (h t (by omega) hbt)).mpr ⟨z, (hsw z).mpr z1, z2⟩
theorem lfI_l {q : Nat} (hq : q = 2 ∨ q = 3 ∨ q = 5) {rs : Nat → Nat → Nat} {ra rb : Nat → Nat} {b : Nat} (hb : b < 256) (h : ∀ r, r < 8 → btd b r = true → rdl q (rs r) (ra r) (rb r)) {f s : Nat} (hc : cok q f s = true) {o : Nat} (ho : o < q ^ (2 - f)) : ∀ k x c, x + k = q ^ (3 - s) → lfI rs q f s b o k x c = c + (((List.range' x k).map (fun x => pin q (pfr q s (-1) x) * 625 + pin q (pfr q f (s : Int) o))).filter (fun z => pqm q ra rb b (z / 625) (z % 625))).length
  | 0, _, _, _ => rfl
  | k + 1, x, c, hk => by
    have e : lfI rs q f s b o (k + 1) x c = lfI rs q f s b o k (x + 1) (if cal rs q (pln (pfr q f (s : Int) o) (pfr q s (-1) x) q) b 8 0 = true then c + 1 else c) := rfl
    obtain ⟨i1, i2, n1, n2, ne⟩ := cok_e hc ho (show x < q ^ (3 - s) by omega)
    have v1 := pin_v hq i1
    have h625 := q4_le hq
    have hl := v1.1
    rw [e, lfI_l hq hb h hc ho k (x + 1) _ (by omega), cal_q hq hb h hc ho (show x < q ^ (3 - s) by omega), r1_s, List.map_cons, List.filter_cons, show (pin q (pfr q s (-1) x) * 625 + pin q (pfr q f (s : Int) o)) / 625 = pin q (pfr q s (-1) x) by omega, show (pin q (pfr q s (-1) x) * 625 + pin q (pfr q f (s : Int) o)) % 625 = pin q (pfr q f (s : Int) o) by omega]
    by_cases w : pqm q ra rb b (pin q (pfr q s (-1) x)) (pin q (pfr q f (s : Int) o)) = true
    · rw [if_pos w, if_pos w, List.length_cons]
      omega
    · rw [if_neg w, if_neg w]
theorem lfO_l {q : Nat} (hq : q = 2 ∨ q = 3 ∨ q = 5) {rs : Nat → Nat → Nat} {ra rb : Nat → Nat} {b : Nat} (hb : b < 256) (h : ∀ r, r < 8 → btd b r = true → rdl q (rs r) (ra r) (rb r)) {f s : Nat} (hc : cok q f s = true) : ∀ k o c, o + k = q ^ (2 - f) → lfO rs q f s b k o c = c + (((List.range' o k).flatMap (fun o => (List.range' 0 (q ^ (3 - s))).map (fun x => pin q (pfr q s (-1) x) * 625 + pin q (pfr q f (s : Int) o)))).filter (fun z => pqm q ra rb b (z / 625) (z % 625))).length
  | 0, _, _, _ => rfl
  | k + 1, o, c, hk => by
    have e : lfO rs q f s b (k + 1) o c = lfO rs q f s b k (o + 1) (lfI rs q f s b o (q ^ (3 - s)) 0 c) := rfl
    rw [e, lfO_l hq hb h hc k (o + 1) _ (by omega), lfI_l hq hb h hc (show o < q ^ (2 - f) by omega) _ _ _ (Nat.zero_add _), r1_s, List.flatMap_cons, List.filter_append, List.length_append]
    omega
theorem lfr_l {q : Nat} (hq : q = 2 ∨ q = 3 ∨ q = 5) {rs : Nat → Nat → Nat} {ra rb : Nat → Nat} {b : Nat} (hb : b < 256) (h : ∀ r, r < 8 → btd b r = true → rdl q (rs r) (ra r) (rb r)) {f s : Nat} (hc : cok q f s = true) : lfr rs q f s b = ((cprs q f s).filter (fun z => pqm q ra rb b (z / 625) (z % 625))).length := by
  unfold lfr cprs
  rw [lfO_l hq hb h hc _ _ _ (Nat.zero_add _), Nat.zero_add]
/-- how many lines meet the told rods: class and model -/
theorem lnm_q {q : Nat} (hq : q = 2 ∨ q = 3 ∨ q = 5) {rs : Nat → Nat → Nat} {ra rb : Nat → Nat} {b : Nat} (hb : b < 256) (h : ∀ r, r < 8 → btd b r = true → rdl q (rs r) (ra r) (rb r)) : lnm rs q b = lnv q (rdq q ra rb b) b := by
  have hk : ckk q = true := by
    have k := ckk_k
    rcases hq with rfl | rfl | rfl
    · exact k.1
    · exact k.2.1
    · exact k.2.2
  unfold ckk at hk
  rw [Bool.and_eq_true, Bool.and_eq_true, Bool.and_eq_true, Bool.and_eq_true, Bool.and_eq_true] at hk
  obtain ⟨⟨⟨⟨⟨c1, c2⟩, c3⟩, c4⟩, c5⟩, c6⟩ := hk
  unfold lnm
  rw [lfr_l hq hb h c1, lfr_l hq hb h c2, lfr_l hq hb h c3, lfr_l hq hb h c4, lfr_l hq hb h c5, lfr_l hq hb h c6]
  have e1 : lnv q (rdq q ra rb b) b = lsm (fun a x => alq q a x (q + 1) 0 && pqm q ra rb b a x) (esq q) := by
    unfold lnv
    rw [lnO_l _ _ _ _ _ _ _ (Nat.zero_add _), Nat.zero_add, List.drop_zero]
    rfl
  have h625 := q4_le hq
  rw [e1, lsm_m q (pqm q ra rb b) (esq q) (fun x hx => by have := List.mem_range'_1.mp (List.mem_filter.mp hx).1; omega), ((cpl_p hq).filter _).length_eq]
  unfold cpl
  rw [List.filter_append, List.filter_append, List.filter_append, List.filter_append, List.filter_append, List.length_append, List.length_append, List.length_append, List.length_append, List.length_append]
  omega
