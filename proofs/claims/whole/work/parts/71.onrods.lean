theorem rwS_0 (q a b w : Nat) (hw : w ≠ 0) : ∀ n i (R : Nat → Nat) x, rwS q a b w n i R x ≠ 0 ↔ R x ≠ 0 ∨ ∃ j, i ≤ j ∧ j < i + n ∧ onl q a b j = x
  | 0, i, R, x => ⟨fun h => Or.inl h, fun h => h.resolve_right (fun ⟨j, h1, h2, _⟩ => by omega)⟩
  | n + 1, i, R, x => by
    rw [rwS_s, rwS_0 q a b w hw n (i + 1)]
    have hor : ∀ y, y ||| w ≠ 0 := fun y h => hw (Nat.or_eq_zero_iff.mp h).2
    constructor
    · rintro (h | ⟨j, h1, h2, h3⟩)
      · by_cases z : x = onl q a b i
        · exact Or.inr ⟨i, Nat.le_refl _, by omega, z.symm⟩
        · have h' : (if x = onl q a b i then R x ||| w else R x) ≠ 0 := h
          rw [if_neg z] at h'
          exact Or.inl h'
      · exact Or.inr ⟨j, by omega, by omega, h3⟩
    · rintro (h | ⟨j, h1, h2, h3⟩)
      · left
        show (if x = onl q a b i then R x ||| w else R x) ≠ 0
        split
        · exact hor _
        · exact h
      · by_cases z : j = i
        · left
          show (if x = onl q a b i then R x ||| w else R x) ≠ 0
          rw [if_pos (by rw [← h3, z])]
          exact hor _
        · exact Or.inr ⟨j, by omega, by omega, h3⟩
theorem rdL_0 (q : Nat) (ra rb : Nat → Nat) (b : Nat) : ∀ n r (R : Nat → Nat) x, rdL q ra rb b n r R x ≠ 0 ↔ R x ≠ 0 ∨ ∃ s, r ≤ s ∧ s < r + n ∧ btd b s = true ∧ onP q (ra s) (rb s) x
  | 0, r, R, x => ⟨fun h => Or.inl h, fun h => h.resolve_right (fun ⟨j, h1, h2, _⟩ => by omega)⟩
  | n + 1, r, R, x => by
    rw [rdL_s, rdL_0 q ra rb b n (r + 1)]
    have k : (if b / 2 ^ r % 2 = 1 then rwS q (ra r) (rb r) (2 ^ r) (q + 1) 0 R else R) x ≠ 0 ↔ R x ≠ 0 ∨ (btd b r = true ∧ onP q (ra r) (rb r) x) := by
      unfold btd
      rw [decide_eq_true_iff]
      by_cases w : b / 2 ^ r % 2 = 1
      · rw [if_pos w, rwS_0 _ _ _ _ (Nat.pos_iff_ne_zero.mp (Nat.pow_pos (by decide)))]
        constructor
        · rintro (h | ⟨j, h1, h2, h3⟩)
          · exact Or.inl h
          · exact Or.inr ⟨w, j, by omega, h3⟩
        · rintro (h | ⟨_, j, h2, h3⟩)
          · exact Or.inl h
          · exact Or.inr ⟨j, by omega, by omega, h3⟩
      · rw [if_neg w]
        exact ⟨fun h => Or.inl h, fun h => h.resolve_right (fun x => w x.1)⟩
    rw [k]
    constructor
    · rintro ((h | h) | ⟨s, h1, h2, h3⟩)
      · exact Or.inl h
      · exact Or.inr ⟨r, Nat.le_refl _, by omega, h⟩
      · exact Or.inr ⟨s, by omega, by omega, h3⟩
    · rintro (h | ⟨s, h1, h2, h3⟩)
      · exact Or.inl (Or.inl h)
      · by_cases z : s = r
        · rw [z] at h3
          exact Or.inl (Or.inr h3)
        · exact Or.inr ⟨s, by omega, by omega, h3⟩
theorem rdq_0 (q : Nat) (ra rb : Nat → Nat) (b x : Nat) : rdq q ra rb b x ≠ 0 ↔ ∃ s, s < 8 ∧ btd b s = true ∧ onP q (ra s) (rb s) x := by
  unfold rdq
  rw [rdL_0]
  constructor
  · rintro (h | ⟨s, _, h2, h3⟩)
    · exact absurd rfl h
    · exact ⟨s, by omega, h3⟩
  · rintro ⟨s, h2, h3⟩
    exact Or.inr ⟨s, by omega, by omega, h3⟩
theorem ono_e (rs : Nat → Nat → Nat) (q pt b : Nat) : ∀ k r, ono rs q pt b k r = true ↔ ∃ s, r ≤ s ∧ s < r + k ∧ btd b s = true ∧ hld (rs s) q pt = true
  | 0, r => ⟨fun h => absurd (show false = true from h) (by decide), fun ⟨s, h1, h2, _⟩ => by omega⟩
  | k + 1, r => by
    have e : ono rs q pt b (k + 1) r = if btd b r = true ∧ hld (rs r) q pt = true then true else ono rs q pt b k (r + 1) := rfl
    rw [e]
    by_cases w : btd b r = true ∧ hld (rs r) q pt = true
    · rw [if_pos w]
      exact ⟨fun _ => ⟨r, Nat.le_refl _, by omega, w⟩, fun _ => rfl⟩
    · rw [if_neg w, ono_e rs q pt b k (r + 1)]
      constructor
      · rintro ⟨s, h1, h2, h3⟩
        exact ⟨s, by omega, by omega, h3⟩
      · rintro ⟨s, h1, h2, h3⟩
        by_cases z : s = r
        · rw [z] at h3
          exact absurd h3 w
        · exact ⟨s, by omega, by omega, h3⟩
/-- the points of one shape, as codes -/
def shp (q f : Nat) : List Nat := (List.range' 0 (q ^ (3 - f))).map (pfr q f (-1))
def cdl (q : Nat) : List Nat := shp q 0 ++ (shp q 1 ++ (shp q 2 ++ shp q 3))
theorem ponI_l (rs : Nat → Nat → Nat) (q f b : Nat) : ∀ k x c, ponI rs q f b k x c = c + (((List.range' x k).map (pfr q f (-1))).filter (fun p => ono rs q p b 8 0)).length
  | 0, _, _ => rfl
  | k + 1, x, c => by
    have e : ponI rs q f b (k + 1) x c = ponI rs q f b k (x + 1) (if ono rs q (pfr q f (-1) x) b 8 0 = true then c + 1 else c) := rfl
    rw [e, ponI_l rs q f b k, r1_s, List.map_cons, List.filter_cons]
    by_cases w : ono rs q (pfr q f (-1) x) b 8 0 = true
    · rw [if_pos w, if_pos w, List.length_cons]
      omega
    · rw [if_neg w, if_neg w]
theorem pon_l (rs : Nat → Nat → Nat) (q b : Nat) : pon rs q b = ((cdl q).filter (fun p => ono rs q p b 8 0)).length := by
  unfold pon cdl shp
  rw [show 3 - 0 = 3 from rfl, show 3 - 1 = 2 from rfl, show 3 - 2 = 1 from rfl, show 3 - 3 = 0 from rfl]
  rw [ponI_l, ponI_l, ponI_l, ponI_l, List.filter_append, List.filter_append, List.filter_append, List.length_append, List.length_append, List.length_append]
  omega
theorem pcq_l (R : Nat → Nat) : ∀ n x c, pcq R n x c = c + ((List.range' x n).filter (fun z => decide (R z ≠ 0))).length
  | 0, _, _ => rfl
  | n + 1, x, c => by
    rw [pcq_s, pcq_l R n, r1_s, List.filter_cons]
    by_cases w : R x = 0
    · rw [if_pos w, if_neg (by simp [w])]
      rfl
    · rw [if_neg w, if_pos (decide_eq_true w), List.length_cons]
      omega
def esk (q : Nat) : Bool := ((List.range' 0 625).filter (fun z => decide (1 ≤ z ∧ z < q ^ 4 ∧ evq q z = z)) == esq q) && ((cdl q).map (fun p : Nat => (pqo q (p : Int)).toNat)).isPerm (esq q) && (cdl q).all (fun p : Nat => isPt q (p : Int))
theorem esk_2 : esk 2 = true ∧ esk 3 = true := by decide +kernel
theorem esk_5 : esk 5 = true := by decide +kernel
theorem esk_q {q : Nat} (hq : q = 2 ∨ q = 3 ∨ q = 5) : (List.range' 0 625).filter (fun z => decide (1 ≤ z ∧ z < q ^ 4 ∧ evq q z = z)) = esq q ∧ ((cdl q).map (fun p : Nat => (pqo q (p : Int)).toNat)).Perm (esq q) ∧ ∀ p ∈ cdl q, isPt q (p : Int) = true := by
  have h : esk q = true := by
    rcases hq with rfl | rfl | rfl
    · exact esk_2.1
    · exact esk_2.2
    · exact esk_5
  unfold esk at h
  rw [Bool.and_eq_true, Bool.and_eq_true] at h
  exact ⟨beq_iff_eq.mp h.1.1, List.isPerm_iff.mp h.1.2, fun p hp => List.all_eq_true.mp h.2 p hp⟩
/-- the told points of all told rods: class and model -/
theorem pon_q {q : Nat} (hq : q = 2 ∨ q = 3 ∨ q = 5) {rs : Nat → Nat → Nat} {ra rb : Nat → Nat} {b : Nat} (h : ∀ r, r < 8 → btd b r = true → rdl q (rs r) (ra r) (rb r)) : pon rs q b = pcq (rdq q ra rb b) 625 0 0 := by
  have h0 : 0 < q := by omega
  obtain ⟨k1, k2, k3⟩ := esk_q hq
  rw [pon_l, pcq_l, Nat.zero_add]
  have e1 : (List.range' 0 625).filter (fun z => decide (rdq q ra rb b z ≠ 0)) = (esq q).filter (fun z => decide (rdq q ra rb b z ≠ 0)) := by
    rw [← k1, List.filter_filter]
    refine List.filter_congr (fun z _ => ?_)
    by_cases w : rdq q ra rb b z ≠ 0
    · obtain ⟨s, h1, h2, h3⟩ := (rdq_0 q ra rb b z).mp w
      have hr := h s h1 h2
      have hn := onP_n hq hr.1.1 hr.1.2.1 hr.2.2.1 h3
      rw [decide_eq_true w, decide_eq_true ⟨by omega, hn.2.1, hn.2.2⟩]
      rfl
    · rw [decide_eq_false w, Bool.false_and]
  rw [e1, ← ((k2.filter (fun z => decide (rdq q ra rb b z ≠ 0))).length_eq), List.filter_map, List.length_map]
  congr 1
  refine List.filter_congr (fun p hp => ?_)
  have hv := k3 p hp
  have hz : ∃ x : Nat, pqo q (p : Int) = (x : Int) ∧ vpt q p x := by
    rcases pqo_t hq (p : Int) with w | w
    · rw [Int.toNat_natCast] at w
      exact w.2
    · exact absurd (hv.symm.trans w.1) (by decide)
  obtain ⟨x, hx, hvx⟩ := hz
  show ono rs q p b 8 0 = decide (rdq q ra rb b (pqo q (p : Int)).toNat ≠ 0)
  have hxe : evq q x = x := by
    have m : x ∈ esq q := k2.mem_iff.mp (List.mem_map.mpr ⟨p, hp, by rw [hx, Int.toNat_natCast]⟩)
    exact of_decide_eq_true (List.mem_filter.mp m).2
  rw [hx, Int.toNat_natCast, Bool.eq_iff_iff, ono_e, decide_eq_true_iff, rdq_0]
  constructor
  · rintro ⟨s, _, h2, h3, h4⟩
    refine ⟨s, by omega, h3, ?_⟩
    have := (hld_q hq (h s (by omega) h3) hvx).mp h4
    rw [hxe] at this
    exact this
  · rintro ⟨s, h2, h3, h4⟩
    refine ⟨s, Nat.zero_le _, by omega, h3, (hld_q hq (h s h2 h3) hvx).mpr ?_⟩
    rw [hxe]
    exact h4
