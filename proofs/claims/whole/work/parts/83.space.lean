theorem att_l (th : Nat → Bool) (b : Nat) : ∀ (n r : Nat) (x : Bool), atl th b n r x = (x && att th b n r)
  | 0, _, x => by
    show x = (x && true)
    rw [Bool.and_true]
  | n + 1, r, x => by
    rw [atl_s, att_l th b n (r + 1), Bool.and_assoc]
    congr 1
    have h : att th b (n + 1) r = if btd b r = true ∧ th r = false then false else att th b n (r + 1) := rfl
    rw [h]
    have hm : b / 2 ^ r % 2 < 2 := Nat.mod_lt _ (by decide)
    have hb : btd b r = decide (b / 2 ^ r % 2 = 1) := rfl
    cases ht : th r
    · by_cases q : b / 2 ^ r % 2 = 0
      · rw [if_neg (fun w => by rw [hb, q] at w; exact absurd w.1 (by decide)), decide_eq_true q]
        rfl
      · rw [if_pos ⟨by rw [hb]; exact decide_eq_true (by omega), rfl⟩, decide_eq_false q]
        rfl
    · rw [if_neg (fun w => absurd w.2 (by decide)), Bool.or_true, Bool.true_and]
theorem att_q (th : Nat → Bool) (b : Nat) : att th b 8 0 = atq th b := by
  unfold atq
  rw [att_l, Bool.true_and]
/-- the class's told lines and the model's are the same -/
def rds (q : Nat) (th : Nat → Bool) (rs : Nat → Nat → Nat) (ra rb : Nat → Nat) : Prop := ∀ r, r < 8 → th r = true → rdl q (rs r) (ra r) (rb r)
theorem xLin_q {q : Nat} (hq : q = 2 ∨ q = 3 ∨ q = 5) {th : Nat → Bool} {rs : Nat → Nat → Nat} {ra rb : Nat → Nat} (h : rds q th rs ra rb) (b : Int) : bqv th b (lnv q (rdq q ra rb b.toNat) b.toNat) = xLin th rs q b := by
  unfold bqv xLin
  by_cases c : 0 ≤ b ∧ b ≤ 255
  · rw [if_pos c, if_pos (show isBt b = true from decide_eq_true (by omega)), att_q]
    by_cases c2 : atq th b.toNat = true
    · rw [if_pos c2, if_pos c2, lnm_q hq (by omega) (fun r hr hb => h r hr (atq_h c2 r hr (of_decide_eq_true hb)))]
    · rw [if_neg c2, if_neg c2]
  · rw [if_neg c, if_neg (fun w => c (by have := of_decide_eq_true (show decide (0 ≤ b ∧ b < 256) = true from w); omega))]
theorem xPoi_q {q : Nat} (hq : q = 2 ∨ q = 3 ∨ q = 5) {th : Nat → Bool} {rs : Nat → Nat → Nat} {ra rb : Nat → Nat} (h : rds q th rs ra rb) (b : Int) : bqv th b (pcq (rdq q ra rb b.toNat) 625 0 0) = xPoi th rs q b := by
  unfold bqv xPoi
  by_cases c : 0 ≤ b ∧ b ≤ 255
  · rw [if_pos c, if_pos (show isBt b = true from decide_eq_true (by omega)), att_q]
    by_cases c2 : atq th b.toNat = true
    · rw [if_pos c2, if_pos c2, pon_q hq (fun r hr hb => h r hr (atq_h c2 r hr (of_decide_eq_true hb)))]
    · rw [if_neg c2, if_neg c2]
  · rw [if_neg c, if_neg (fun w => c (by have := of_decide_eq_true (show decide (0 ≤ b ∧ b < 256) = true from w); omega))]
theorem xMee_q {q : Nat} (hq : q = 2 ∨ q = 3 ∨ q = 5) {th : Nat → Bool} {rs : Nat → Nat → Nat} {ra rb : Nat → Nat} (h : rds q th rs ra rb) (a b : Int) : mtw q th ra rb a b = xMee th rs q a b := by
  unfold mtw xMee hmt
  by_cases c : (0 ≤ a ∧ a ≤ 7) ∧ 0 ≤ b ∧ b ≤ 7
  · rw [if_pos c, if_pos (show isRd a = true ∧ isRd b = true from ⟨decide_eq_true (by omega), decide_eq_true (by omega)⟩)]
    by_cases c2 : th a.toNat = true ∧ th b.toNat = true
    · rw [if_pos c2, if_pos c2, mtv_q hq (h _ (by omega) c2.1) (h _ (by omega) c2.2)]
      split
      · rfl
      · split <;> rfl
    · rw [if_neg c2, if_neg c2]
  · rw [if_neg c, if_neg (fun w => c (by have h1 := of_decide_eq_true (show decide (0 ≤ a ∧ a < 8) = true from w.1); have h2 := of_decide_eq_true (show decide (0 ≤ b ∧ b < 8) = true from w.2); omega))]
theorem rodp_q {q : Nat} (hq : q = 2 ∨ q = 3 ∨ q = 5) (r a b : Int) : rodp q r a b = true ↔ isRd r = true ∧ isPt q a = true ∧ isPt q b = true ∧ ldf (plk a.toNat b.toNat q) ≠ 0 := by
  have hr : isRd r = true ↔ 0 ≤ r ∧ r < 8 := ⟨fun w => of_decide_eq_true w, fun w => decide_eq_true w⟩
  rw [hr]
  unfold rodp
  rw [decide_eq_true_iff]
  rcases pqo_t hq a with ⟨p1, x, e1, v1⟩ | ⟨p1, e1⟩
  · rcases pqo_t hq b with ⟨p2, y, e2, v2⟩ | ⟨p2, e2⟩
    · rw [p1, p2, e1, e2, plk_0 hq v1 v2, Int.toNat_natCast, Int.toNat_natCast]
      constructor
      · rintro ⟨a1, a2, _, _, a5⟩
        exact ⟨⟨a1, by omega⟩, rfl, rfl, a5⟩
      · rintro ⟨⟨a1, a2⟩, _, _, a5⟩
        exact ⟨a1, by omega, by omega, by omega, a5⟩
    · rw [p2, e2]
      constructor
      · rintro ⟨_, _, _, a4, _⟩
        exact absurd rfl a4
      · rintro ⟨_, _, a4, _⟩
        exact absurd a4 (by decide)
  · rw [p1, e1]
    constructor
    · rintro ⟨_, _, a4, _⟩
      exact absurd rfl a4
    · rintro ⟨_, a4, _⟩
      exact absurd a4 (by decide)
theorem xRod_q {q : Nat} (hq : q = 2 ∨ q = 3 ∨ q = 5) (r a b : Int) : (xRod q r a b = 1 ↔ rodp q r a b = true) ∧ (if rodp q r a b = true then (1 : Int) else -2) = xRod q r a b := by
  have h := rodp_q hq r a b
  unfold xRod
  by_cases c : rodp q r a b = true
  · rw [if_pos c, if_pos (h.mp c)]
    exact ⟨⟨fun _ => c, fun _ => rfl⟩, rfl⟩
  · rw [if_neg c, if_neg (fun w => c (h.mpr w))]
    exact ⟨⟨fun w => absurd w (by decide), fun w => absurd w c⟩, rfl⟩
/-- a new line is the same in both -/
theorem rds_r {q : Nat} (hq : q = 2 ∨ q = 3 ∨ q = 5) {th : Nat → Bool} {rs : Nat → Nat → Nat} {ra rb : Nat → Nat} (h : rds q th rs ra rb) (r a b : Int) : rds q (if xRod q r a b = 1 then tS th r.toNat true else th) (if xRod q r a b = 1 then rS rs r.toNat (pln a.toNat b.toNat q) else rs) (fun z => if rodp q r a b = true ∧ z = r.toNat then evq q (pqo q a).toNat else ra z) (fun z => if rodp q r a b = true ∧ z = r.toNat then evq q (pqo q b).toNat else rb z) := by
  intro z hz ht
  by_cases c : rodp q r a b = true
  · rw [if_pos ((xRod_q hq r a b).1.mpr c)] at ht ⊢
    by_cases e : z = r.toNat
    · obtain ⟨c1, c2, c3, c4⟩ := (rodp_q hq r a b).mp c
      rcases pqo_t hq a with ⟨p1, x, e1, v1⟩ | ⟨p1, e1⟩
      · rcases pqo_t hq b with ⟨p2, y, e2, v2⟩ | ⟨p2, e2⟩
        · have w := rdl_of hq v1 v2 c4
          show rdl q (rS rs r.toNat (pln a.toNat b.toNat q) z) (if rodp q r a b = true ∧ z = r.toNat then evq q (pqo q a).toNat else ra z) (if rodp q r a b = true ∧ z = r.toNat then evq q (pqo q b).toNat else rb z)
          rw [if_pos ⟨c, e⟩, if_pos ⟨c, e⟩, e, rS_e, e1, e2]
          exact w
        · rw [p2] at c3; exact absurd c3 (by decide)
      · rw [p1] at c2; exact absurd c2 (by decide)
    · rw [tS_n e] at ht
      have w := h z hz ht
      show rdl q (rS rs r.toNat (pln a.toNat b.toNat q) z) (if rodp q r a b = true ∧ z = r.toNat then evq q (pqo q a).toNat else ra z) (if rodp q r a b = true ∧ z = r.toNat then evq q (pqo q b).toNat else rb z)
      rw [if_neg (fun w => e w.2), if_neg (fun w => e w.2), rS_n e]
      exact w
  · rw [if_neg (fun w => c ((xRod_q hq r a b).1.mp w))] at ht ⊢
    have w := h z hz ht
    show rdl q (rs z) (if rodp q r a b = true ∧ z = r.toNat then evq q (pqo q a).toNat else ra z) (if rodp q r a b = true ∧ z = r.toNat then evq q (pqo q b).toNat else rb z)
    rw [if_neg (fun w => c w.1), if_neg (fun w => c w.1)]
    exact w
theorem tS_q {q : Nat} (hq : q = 2 ∨ q = 3 ∨ q = 5) (th : Nat → Bool) (r a b : Int) : (fun z => if rodp q r a b = true ∧ z = r.toNat then true else th z) = (if xRod q r a b = 1 then tS th r.toNat true else th) := by
  funext z
  by_cases c : rodp q r a b = true
  · rw [if_pos ((xRod_q hq r a b).1.mpr c)]
    unfold tS
    by_cases e : z = r.toNat
    · rw [if_pos ⟨c, e⟩, if_pos e]
    · rw [if_neg (fun w => e w.2), if_neg e]
  · rw [if_neg (fun w => c w.1), if_neg (fun w => c ((xRod_q hq r a b).1.mp w))]
