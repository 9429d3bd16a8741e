/-! ===== each call on the class and on the model: the same answer, and worlds that still belong together ===== -/
theorem fv_mono {y : fv_Y} {d mc ms : Nat} {as : List Value} {f : fv_F} {al : Option Nat} {Q Q2 : Option Value → fv_F → Option Nat → Prop} (h : fv_M y d mc ms as f al Q) (hq : ∀ r g a, Q r g a → Q2 r g a) : fv_M y d mc ms as f al Q2 := fun l D dA N A p e h1 h2 h3 s m args below hf happ hP hk => by
  obtain ⟨n, o, w1, w2, w3, ⟨⟨r, g, a, e1, e2, e3⟩, w4⟩⟩ := h l D dA N A p e h1 h2 h3 s m args below hf happ hP hk
  exact ⟨n, o, w1, w2, w3, ⟨⟨r, g, a, e1, hq _ _ _ e2, e3⟩, w4⟩⟩
/-- what the class's cells hold -/
def cI (T : Nat → tms) (t : Nat → Bool) (k m : Nat) (bs : List Nat) (q : Nat) (th : Nat → Bool) (rs : Nat → Nat → Nat) (G : Nat → Nat → Int32) (L : Nat → Nat → Int64) : Prop := csh G T t ∧ emp G L ∧ lsp G k m bs ∧ spc G q th rs
/-- what the model's cells hold -/
def mJ (T : Nat → tms) (t : Nat → Bool) (k m : Nat) (bs : List Nat) (q : Nat) (th : Nat → Bool) (ra rb : Nat → Nat) (G : Nat → Nat → Int32) (L : Nat → Nat → Int64) : Prop := msh G L T t ∧ mlp G k m bs ∧ msq G q ∧ mrd G q th ra rb
/-- what holds of both -/
def bth (T : Nat → tms) (t : Nat → Bool) (k m : Nat) (bs : List Nat) (q : Nat) (th : Nat → Bool) (rs : Nat → Nat → Nat) (ra rb : Nat → Nat) : Prop := pvs T t ∧ dvs T t ∧ (1 ≤ k ∧ k ≤ 4 ∧ 1 ≤ m ∧ m ≤ 4) ∧ (∀ j, j < bs.length → bs.getD j 0 < 10000 ∧ bxv (dgt (bs.getD j 0) k) k m) ∧ rds q th rs ra rb
/-- worlds that belong together -/
def wlds (f g : fv_F) : Prop := ∃ (T : Nat → tms) (t : Nat → Bool) (k m : Nat) (bs : List Nat) (q : Nat) (th : Nat → Bool) (rs : Nat → Nat → Nat) (ra rb : Nat → Nat) (G : Nat → Nat → Int32) (L : Nat → Nat → Int64) (G' : Nat → Nat → Int32) (L' : Nat → Nat → Int64), f = fw cT G L ∧ g = fw mT G' L' ∧ bth T t k m bs q th rs ra rb ∧ cI T t k m bs q th rs G L ∧ mJ T t k m bs q th ra rb G' L'
/-- a call with the answer v; P tells the class's world, R the model's; any two of them belong together -/
def pr (f g : fv_F) (yc ym : fv_Y) (dc dm : Nat) (as : List Value) (v : Value) : Prop := ∃ P R : fv_F → Prop, fv_M yc dc 0 0 (.ref 0 :: as) f none (fun r h al => r = some v ∧ al = none ∧ P h) ∧ fv_M ym dm 0 0 (.ref 0 :: as) g none (fun r h al => r = some v ∧ al = none ∧ R h) ∧ ∀ h i, P h → R i → wlds h i
section PRS
variable {T : Nat → tms} {t : Nat → Bool} {k m : Nat} {bs : List Nat} {q : Nat} {th : Nat → Bool} {rs : Nat → Nat → Nat} {ra rb : Nat → Nat} {G G2 G' : Nat → Nat → Int32} {L L2 L' : Nat → Nat → Int64}
theorem spc_k (h : spc G q th rs) (w : ∀ i, 31 ≤ i → i < 51 → G2 i = G i) : spc G2 q th rs := by
  obtain ⟨h1, h2, h3, h4⟩ := h
  refine ⟨by rw [w 31 (by decide) (by decide)]; exact h1, h2, fun r hr => by rw [w _ (by omega) (by omega)]; exact h3 r hr, fun r hr ht j hj => by rw [w _ (by omega) (by omega)]; exact h4 r hr ht j hj⟩
theorem emp_k (h : emp G L) (h5 : G2 5 = G 5) (h4 : L2 4 = L 4) : emp G2 L2 := ⟨fun c hc => by rw [h4]; exact h.1 c hc, fun b hb => by rw [h5]; exact h.2 b hb⟩
theorem cI_k (h : cI T t k m bs q th rs G L) (w : ∀ i, i = 5 ∨ i = 15 ∨ i = 27 ∨ 31 ≤ i → G2 i = G i) (h4 : L2 4 = L 4) : cI T t k m bs q th rs G2 L2 :=
  ⟨csh_k h.1 (fun i hi => w i (by omega)), emp_k h.2.1 (w 5 (by omega)) h4, lsp_o h.2.2.1 (w 15 (by omega)) (w 27 (by omega)), spc_k h.2.2.2 (fun i hi _ => w i (by omega))⟩
theorem mrd_k (h : mrd G q th ra rb) (w : ∀ i, i = 24 ∨ i = 25 ∨ i = 26 → G2 i = G i) : mrd G2 q th ra rb := by
  unfold mrd
  rw [w 24 (by omega), w 25 (by omega), w 26 (by omega)]
  exact h
theorem mJ_k (h : mJ T t k m bs q th ra rb G L) (w : ∀ i j, i = 3 ∨ i = 4 ∨ i = 5 ∨ i = 20 ∨ i = 24 ∨ i = 25 ∨ i = 26 ∨ i = 29 ∨ i = 30 ∨ (i = 0 ∧ (j = 20 ∨ j = 21 ∨ j = 22 ∨ j = 27)) → G2 i j = G i j) (h6 : L2 6 = L 6) : mJ T t k m bs q th ra rb G2 L2 :=
  ⟨msh_G h.1 (fun i j hi => w i j (by omega)) h6, mlp_o h.2.1 (fun j hj => w 0 j (by omega)) (funext fun j => w 20 j (by omega)), msq_k h.2.2.1 (w 0 27 (by omega)) (funext fun j => w 29 j (by omega)) (funext fun j => w 30 j (by omega)), mrd_k h.2.2.2 (fun i hi => funext fun j => w i j (by omega))⟩
/-- sheets anew, the rest as it was -/
theorem cI_s {T2 : Nat → tms} {t2 : Nat → Bool} (h : cI T t k m bs q th rs G L) (hs : csh G2 T2 t2) (he : emp G2 L2) (w : ∀ i, (i < 3 ∨ 14 < i) → i < 51 → G2 i = G i) : cI T2 t2 k m bs q th rs G2 L2 :=
  ⟨hs, he, lsp_o h.2.2.1 (w 15 (by omega) (by omega)) (w 27 (by omega) (by omega)), spc_k h.2.2.2 (fun i _ _ => w i (by omega) (by omega))⟩
theorem mJ_s {T2 : Nat → tms} {t2 : Nat → Bool} (h : mJ T t k m bs q th ra rb G L) (hs : msh G2 L2 T2 t2) (w : ∀ i j, i = 20 ∨ i = 24 ∨ i = 25 ∨ i = 26 ∨ i = 29 ∨ i = 30 ∨ (i = 0 ∧ (j = 20 ∨ j = 21 ∨ j = 22 ∨ j = 27)) → G2 i j = G i j) : mJ T2 t2 k m bs q th ra rb G2 L2 :=
  ⟨hs, mlp_o h.2.1 (fun j hj => w 0 j (by omega)) (funext fun j => w 20 j (by omega)), msq_k h.2.2.1 (w 0 27 (by omega)) (funext fun j => w 29 j (by omega)) (funext fun j => w 30 j (by omega)), mrd_k h.2.2.2 (fun i hi => funext fun j => w i j (by omega))⟩
/-- a new sheet of what is made -/
theorem d_ok {c : Nat} {v : Int} {ts : tms} (hp : pvs T t) (hd : dvs T t) (h : v < 0 ∨ ∃ U, sok U ∧ v = stl U ∧ ts = trm U) : pvs (sT T c v ts) (sB t c v) ∧ dvs (sT T c v ts) (sB t c v) := by
  by_cases q : v < 0
  · obtain ⟨e1, e2⟩ := sTB_n q T t c ts
    rw [e1, e2]
    exact ⟨hp, hd⟩
  · rcases h with h | ⟨U, hU, hv, hts⟩
    · exact absurd h q
    · refine ⟨by rw [hv, hts]; exact pvs_s hp hU c, fun s hs ht => ?_⟩
      unfold sT
      unfold sB at ht
      by_cases e : s = c ∧ 0 ≤ v
      · rw [if_pos e, hts]
        exact dsc_trm hU (by omega)
      · rw [if_neg e] at ht ⊢
        exact hd s hs ht
theorem st_lt {s : Int} (h : isSt s = true) : s.toNat < 12 := by have := isSt_1 h; omega
theorem k_Add (hp : pvs T t) (s : Int) (x : Int64) (c : Int) : xAdd T t s x c < 0 ∨ ∃ U, sok U ∧ xAdd T t s x c = stl U ∧ trm (uAdd T s c x) = trm U := by
  unfold xAdd
  by_cases h : isSt s = true ∧ byd x = false ∧ okB c = true
  · rw [if_pos h]
    by_cases h2 : t s.toNat = true
    · rw [if_pos h2]
      exact Or.inr ⟨_, sok_ad (sok_pal sok_z (hp _ (st_lt h.1) h2).1) (okB_1 h.2.2).2 x, rfl, rfl⟩
    · rw [if_neg h2]; exact Or.inl (by decide)
  · rw [if_neg h]; exact Or.inl (by decide)
theorem k_Sum (hp : pvs T t) (c a b n : Int) : xSum T t c a b n < 0 ∨ ∃ U, sok U ∧ xSum T t c a b n = stl U ∧ trm (uSum T a b n) = trm U := by
  unfold xSum
  by_cases h : isSt c = true ∧ isSt a = true ∧ isSt b = true ∧ -1000000 ≤ n ∧ n ≤ 1000000
  · rw [if_pos h]
    by_cases h2 : t a.toNat = true ∧ t b.toNat = true
    · rw [if_pos h2]
      exact Or.inr ⟨_, sok_pal (sok_pal sok_z (hp _ (st_lt h.2.1) h2.1).1) (hp _ (st_lt h.2.2.1) h2.2).1, rfl, rfl⟩
    · rw [if_neg h2]; exact Or.inl (by decide)
  · rw [if_neg h]; exact Or.inl (by decide)
theorem k_Pro (hp : pvs T t) (c a b : Int) : xPro T t c a b < 0 ∨ ∃ U, sok U ∧ xPro T t c a b = stl U ∧ trm (uPro T a b) = trm U := by
  unfold xPro
  by_cases h : isSt c = true ∧ isSt a = true ∧ isSt b = true
  · rw [if_pos h]
    by_cases h2 : t a.toNat = true ∧ t b.toNat = true
    · rw [if_pos h2]
      by_cases h3 : thi (T a.toNat) (T b.toNat) = true
      · rw [if_pos h3]; exact Or.inl (by decide)
      · rw [if_neg h3]
        exact Or.inr ⟨_, sok_pml sok_z (thi_ok (hp _ (st_lt h.2.1) h2.1).1 (hp _ (st_lt h.2.2) h2.2).1 (by cases hh : thi (T a.toNat) (T b.toNat); rfl; exact absurd hh h3)), rfl, rfl⟩
    · rw [if_neg h2]; exact Or.inl (by decide)
  · rw [if_neg h]; exact Or.inl (by decide)
theorem k_Tur (hp : pvs T t) (c a i : Int) : xTur T t c a i < 0 ∨ ∃ U, sok U ∧ xTur T t c a i = stl U ∧ trm (uTur T a i) = trm U := by
  unfold xTur
  by_cases h : isSt c = true ∧ isSt a = true ∧ 1 ≤ i ∧ i < 5
  · rw [if_pos h]
    by_cases h2 : t a.toNat = true
    · rw [if_pos h2]
      exact Or.inr ⟨_, sok_psw (by omega) sok_z (hp _ (st_lt h.2.1) h2).1, rfl, rfl⟩
    · rw [if_neg h2]; exact Or.inl (by decide)
  · rw [if_neg h]; exact Or.inl (by decide)
theorem k_Dif (hp : pvs T t) (c a i : Int) : xDif T t c a i < 0 ∨ ∃ U, sok U ∧ xDif T t c a i = stl U ∧ trm (uDif T a i) = trm U := by
  unfold xDif
  by_cases h : isSt c = true ∧ isSt a = true ∧ 1 ≤ i ∧ i < 5
  · rw [if_pos h]
    by_cases h2 : t a.toNat = true
    · rw [if_pos h2]
      exact Or.inr ⟨_, sok_pdf (by omega) sok_z (hp _ (st_lt h.2.1) h2).1, rfl, rfl⟩
    · rw [if_neg h2]; exact Or.inl (by decide)
  · rw [if_neg h]; exact Or.inl (by decide)
theorem k_Pol (c o : Int) : xPol c o < 0 ∨ ∃ U, sok U ∧ xPol c o = stl U ∧ uPol o = trm U := by
  by_cases h : isSt c = true ∧ figs o ≠ 0
  · have e := (yPol_x c o).1
    have e2 := (yPol_x c o).2 h.2
    refine Or.inr ⟨mpo o.toNat, sok_mpo (figs_O h.2).2, ?_, e2.symm⟩
    rw [← e]
    unfold yPol
    rw [if_pos h]
  · refine Or.inl ?_
    unfold xPol
    rw [if_neg h]
    decide

theorem p_length (hB : bth T t k m bs q th rs ra rb) (hC : cI T t k m bs q th rs G L) (hM : mJ T t k m bs q th ra rb G' L') (o : Int) (o1 : -2147483648 ≤ o) (o2 : o < 2147483648) : pr (fw cT G L) (fw mT G' L') Y10_length Y11_length 3 2 [.int (iI o)] (.int (iI (xLen o))) := by
  refine ⟨fun h => ∃ G1 L1, h = fw cT G1 L1 ∧ cI T t k m bs q th rs G1 L1, fun h => ∃ G1 L1, h = fw mT G1 L1 ∧ mJ T t k m bs q th ra rb G1 L1, fv_mono (C10_length G L o o1 o2) ?_, fv_mono (C11_length G' L' o o1 o2) ?_, ?_⟩
  · rintro r g al ⟨rfl, rfl, rfl⟩; exact ⟨rfl, rfl, G, L, rfl, hC⟩
  · rintro r g al ⟨G2, rfl, rfl, rfl, h⟩; exact ⟨rfl, rfl, G2, L', rfl, mJ_k hM (fun i j w => h i j (by omega) (by omega) (by omega)) rfl⟩
  · rintro h i ⟨G1, L1, rfl, w1⟩ ⟨G3, L3, rfl, w3⟩
    exact ⟨T, t, k, m, bs, q, th, rs, ra, rb, G1, L1, G3, L3, rfl, rfl, hB, w1, w3⟩
theorem p_exchange (hB : bth T t k m bs q th rs ra rb) (hC : cI T t k m bs q th rs G L) (hM : mJ T t k m bs q th ra rb G' L') (o i : Int) (o1 : -2147483648 ≤ o) (o2 : o < 2147483648) (i1 : -2147483648 ≤ i) (i2 : i < 2147483648) : pr (fw cT G L) (fw mT G' L') Y10_exchange Y11_exchange 3 2 [.int (iI o), .int (iI i)] (.int (iI (xExc o i))) := by
  refine ⟨fun h => ∃ G1 L1, h = fw cT G1 L1 ∧ cI T t k m bs q th rs G1 L1, fun h => ∃ G1 L1, h = fw mT G1 L1 ∧ mJ T t k m bs q th ra rb G1 L1, fv_mono (C10_exchange G L o i o1 o2 i1 i2) ?_, fv_mono (C11_exchange G' L' o i o1 o2 i1 i2) ?_, ?_⟩
  · rintro r g al ⟨rfl, rfl, rfl⟩; exact ⟨rfl, rfl, G, L, rfl, hC⟩
  · rintro r g al ⟨G2, rfl, rfl, rfl, h⟩; exact ⟨rfl, rfl, G2, L', rfl, mJ_k hM (fun i j w => h i j (by omega) (by omega) (by omega)) rfl⟩
  · rintro h i ⟨G1, L1, rfl, w1⟩ ⟨G3, L3, rfl, w3⟩
    exact ⟨T, t, k, m, bs, q, th, rs, ra, rb, G1, L1, G3, L3, rfl, rfl, hB, w1, w3⟩
theorem p_inverse (hB : bth T t k m bs q th rs ra rb) (hC : cI T t k m bs q th rs G L) (hM : mJ T t k m bs q th ra rb G' L') (o : Int) (o1 : -2147483648 ≤ o) (o2 : o < 2147483648) : pr (fw cT G L) (fw mT G' L') Y10_inverse Y11_inverse 3 2 [.int (iI o)] (.int (iI (xInv o))) := by
  refine ⟨fun h => ∃ G1 L1, h = fw cT G1 L1 ∧ cI T t k m bs q th rs G1 L1, fun h => ∃ G1 L1, h = fw mT G1 L1 ∧ mJ T t k m bs q th ra rb G1 L1, fv_mono (C10_inverse G L o o1 o2) ?_, fv_mono (C11_inverse G' L' o o1 o2) ?_, ?_⟩
  · rintro r g al ⟨rfl, rfl, rfl⟩; exact ⟨rfl, rfl, G, L, rfl, hC⟩
  · rintro r g al ⟨G2, rfl, rfl, rfl, h⟩; exact ⟨rfl, rfl, G2, L', rfl, mJ_k hM (fun i j w => h i j (by omega) (by omega) (by omega)) rfl⟩
  · rintro h i ⟨G1, L1, rfl, w1⟩ ⟨G3, L3, rfl, w3⟩
    exact ⟨T, t, k, m, bs, q, th, rs, ra, rb, G1, L1, G3, L3, rfl, rfl, hB, w1, w3⟩
theorem p_orders (hB : bth T t k m bs q th rs ra rb) (hC : cI T t k m bs q th rs G L) (hM : mJ T t k m bs q th ra rb G' L') (n l : Int) (n1 : -2147483648 ≤ n) (n2 : n < 2147483648) (l1 : -2147483648 ≤ l) (l2 : l < 2147483648) : pr (fw cT G L) (fw mT G' L') Y10_orders Y11_orders 6 2 [.int (iI n), .int (iI l)] (.int (iI (xOrd n l))) := by
  refine ⟨fun h => ∃ G1 L1, h = fw cT G1 L1 ∧ cI T t k m bs q th rs G1 L1, fun h => ∃ G1 L1, h = fw mT G1 L1 ∧ mJ T t k m bs q th ra rb G1 L1, fv_mono (C10_orders G L n l n1 n2 l1 l2) ?_, fv_mono (C11_orders G' L' n l n1 n2 l1 l2) ?_, ?_⟩
  · rintro r g al ⟨rfl, rfl, rfl⟩; exact ⟨rfl, rfl, G, L, rfl, hC⟩
  · rintro r g al ⟨G2, rfl, rfl, rfl, h⟩; exact ⟨rfl, rfl, G2, L', rfl, mJ_k hM (fun i j w => h i j (by omega) (by omega) (by omega)) rfl⟩
  · rintro h i ⟨G1, L1, rfl, w1⟩ ⟨G3, L3, rfl, w3⟩
    exact ⟨T, t, k, m, bs, q, th, rs, ra, rb, G1, L1, G3, L3, rfl, rfl, hB, w1, w3⟩
theorem p_step (hB : bth T t k m bs q th rs ra rb) (hC : cI T t k m bs q th rs G L) (hM : mJ T t k m bs q th ra rb G' L') (o r z : Int) (o1 : -2147483648 ≤ o) (o2 : o < 2147483648) (r1 : -2147483648 ≤ r) (r2 : r < 2147483648) (z1 : -2147483648 ≤ z) (z2 : z < 2147483648) : pr (fw cT G L) (fw mT G' L') Y10_step Y11_step 6 2 [.int (iI o), .int (iI r), .int (iI z)] (.int (iI (xStp o r z))) := by
  refine ⟨fun h => ∃ G1 L1, h = fw cT G1 L1 ∧ cI T t k m bs q th rs G1 L1, fun h => ∃ G1 L1, h = fw mT G1 L1 ∧ mJ T t k m bs q th ra rb G1 L1, fv_mono (C10_step G L o r z o1 o2 r1 r2 z1 z2) ?_, fv_mono (C11_step G' L' o r z o1 o2 r1 r2 z1 z2) ?_, ?_⟩
  · rintro r g al ⟨rfl, rfl, rfl⟩; exact ⟨rfl, rfl, G, L, rfl, hC⟩
  · rintro r g al ⟨G2, rfl, rfl, rfl, h⟩; exact ⟨rfl, rfl, G2, L', rfl, mJ_k hM (fun i j w => h i j (by omega) (by omega) (by omega)) rfl⟩
  · rintro h i ⟨G1, L1, rfl, w1⟩ ⟨G3, L3, rfl, w3⟩
    exact ⟨T, t, k, m, bs, q, th, rs, ra, rb, G1, L1, G3, L3, rfl, rfl, hB, w1, w3⟩
theorem p_strip (hB : bth T t k m bs q th rs ra rb) (hC : cI T t k m bs q th rs G L) (hM : mJ T t k m bs q th ra rb G' L') (x y b z i : Int) (x1 : -2147483648 ≤ x) (x2 : x < 2147483648) (y1 : -2147483648 ≤ y) (y2 : y < 2147483648) (b1 : -2147483648 ≤ b) (b2 : b < 2147483648) (z1 : -2147483648 ≤ z) (z2 : z < 2147483648) (i1 : -2147483648 ≤ i) (i2 : i < 2147483648) : pr (fw cT G L) (fw mT G' L') Y10_strip Y11_strip 9 2 [.int (iI x), .int (iI y), .int (iI b), .int (iI z), .int (iI i)] (.int (iI (xStr x y b z i))) := by
  refine ⟨fun h => ∃ G1 L1, h = fw cT G1 L1 ∧ cI T t k m bs q th rs G1 L1, fun h => ∃ G1 L1, h = fw mT G1 L1 ∧ mJ T t k m bs q th ra rb G1 L1, fv_mono (C10_strip G L x y b z i x1 x2 y1 y2 b1 b2 z1 z2 i1 i2) ?_, fv_mono (C11_strip G' L' x y b z i x1 x2 y1 y2 b1 b2 z1 z2 i1 i2) ?_, ?_⟩
  · rintro r g al ⟨rfl, rfl, rfl⟩; exact ⟨rfl, rfl, G, L, rfl, hC⟩
  · rintro r g al ⟨G2, rfl, rfl, rfl, h⟩; exact ⟨rfl, rfl, G2, L', rfl, mJ_k hM (fun i j w => congrFun (h i (by omega) (by omega) (by omega) (by omega) (by omega) (by omega) (by omega) (by omega) (by omega)) j) rfl⟩
  · rintro h i ⟨G1, L1, rfl, w1⟩ ⟨G3, L3, rfl, w3⟩
    exact ⟨T, t, k, m, bs, q, th, rs, ra, rb, G1, L1, G3, L3, rfl, rfl, hB, w1, w3⟩
theorem p_orderOf (hB : bth T t k m bs q th rs ra rb) (hC : cI T t k m bs q th rs G L) (hM : mJ T t k m bs q th ra rb G' L') (x y b : Int) (x1 : -2147483648 ≤ x) (x2 : x < 2147483648) (y1 : -2147483648 ≤ y) (y2 : y < 2147483648) (b1 : -2147483648 ≤ b) (b2 : b < 2147483648) : pr (fw cT G L) (fw mT G' L') Y10_orderOf Y11_orderOf 3 2 [.int (iI x), .int (iI y), .int (iI b)] (.int (iI (xOof x y b))) := by
  refine ⟨fun h => ∃ G1 L1, h = fw cT G1 L1 ∧ cI T t k m bs q th rs G1 L1, fun h => ∃ G1 L1, h = fw mT G1 L1 ∧ mJ T t k m bs q th ra rb G1 L1, fv_mono (C10_orderOf G L x y b x1 x2 y1 y2 b1 b2) ?_, fv_mono (C11_orderOf G' L' x y b x1 x2 y1 y2 b1 b2) ?_, ?_⟩
  · rintro r g al ⟨rfl, rfl, rfl⟩; exact ⟨rfl, rfl, G, L, rfl, hC⟩
  · rintro r g al ⟨G2, rfl, rfl, rfl, h⟩; exact ⟨rfl, rfl, G2, L', rfl, mJ_k hM (fun i j w => congrFun (h i (by omega) (by omega) (by omega) (by omega) (by omega) (by omega) (by omega) (by omega) (by omega)) j) rfl⟩
  · rintro h i ⟨G1, L1, rfl, w1⟩ ⟨G3, L3, rfl, w3⟩
    exact ⟨T, t, k, m, bs, q, th, rs, ra, rb, G1, L1, G3, L3, rfl, rfl, hB, w1, w3⟩
theorem p_fillings (hB : bth T t k m bs q th rs ra rb) (hC : cI T t k m bs q th rs G L) (hM : mJ T t k m bs q th ra rb G' L') (x y a b c : Int) (x1 : -2147483648 ≤ x) (x2 : x < 2147483648) (y1 : -2147483648 ≤ y) (y2 : y < 2147483648) (a1 : -2147483648 ≤ a) (a2 : a < 2147483648) (b1 : -2147483648 ≤ b) (b2 : b < 2147483648) (c1 : -2147483648 ≤ c) (c2 : c < 2147483648) : pr (fw cT G L) (fw mT G' L') Y10_fillings Y11_fillings 27 2 [.int (iI x), .int (iI y), .int (iI a), .int (iI b), .int (iI c)] (.int (iI (xFls x y a b c))) := by
  refine ⟨fun h => ∃ G1 L1, h = fw cT G1 L1 ∧ cI T t k m bs q th rs G1 L1, fun h => ∃ G1 L1, h = fw mT G1 L1 ∧ mJ T t k m bs q th ra rb G1 L1, fv_mono (C10_fillings G L x y a b c x1 x2 y1 y2 a1 a2 b1 b2 c1 c2) ?_, fv_mono (C11_fillings G' L' x y a b c x1 x2 y1 y2 a1 a2 b1 b2 c1 c2) ?_, ?_⟩
  · rintro r g al ⟨G2, rfl, rfl, rfl, h⟩; exact ⟨rfl, rfl, G2, L, rfl, cI_k hC (fun i w => h i (by omega)) rfl⟩
  · rintro r g al ⟨G2, rfl, rfl, rfl, h⟩; exact ⟨rfl, rfl, G2, L', rfl, mJ_k hM (fun i j w => congrFun (h i (by omega) (by omega) (by omega) (by omega) (by omega) (by omega) (by omega) (by omega) (by omega)) j) rfl⟩
  · rintro h i ⟨G1, L1, rfl, w1⟩ ⟨G3, L3, rfl, w3⟩
    exact ⟨T, t, k, m, bs, q, th, rs, ra, rb, G1, L1, G3, L3, rfl, rfl, hB, w1, w3⟩
theorem p_terms (hB : bth T t k m bs q th rs ra rb) (hC : cI T t k m bs q th rs G L) (hM : mJ T t k m bs q th ra rb G' L') (s : Int) (s1 : -2147483648 ≤ s) (s2 : s < 2147483648) : pr (fw cT G L) (fw mT G' L') Y10_terms Y11_terms 2 2 [.int (iI s)] (.int (iI (xLos T t s))) := by
  refine ⟨fun h => ∃ G1 L1, h = fw cT G1 L1 ∧ cI T t k m bs q th rs G1 L1, fun h => ∃ G1 L1, h = fw mT G1 L1 ∧ mJ T t k m bs q th ra rb G1 L1, fv_mono (C10_terms G L T t hC.1 s s1 s2) ?_, fv_mono (C11_terms G' L' T t hM.1  s s1 s2) ?_, ?_⟩
  · rintro r g al ⟨rfl, rfl, rfl⟩; exact ⟨rfl, rfl, G, L, rfl, hC⟩
  · rintro r g al ⟨rfl, rfl, rfl⟩; exact ⟨rfl, rfl, G', L', rfl, hM⟩
  · rintro h i ⟨G1, L1, rfl, w1⟩ ⟨G3, L3, rfl, w3⟩
    exact ⟨T, t, k, m, bs, q, th, rs, ra, rb, G1, L1, G3, L3, rfl, rfl, hB, w1, w3⟩
theorem p_exponents (hB : bth T t k m bs q th rs ra rb) (hC : cI T t k m bs q th rs G L) (hM : mJ T t k m bs q th ra rb G' L') (s j : Int) (s1 : -2147483648 ≤ s) (s2 : s < 2147483648) (j1 : -2147483648 ≤ j) (j2 : j < 2147483648) : pr (fw cT G L) (fw mT G' L') Y10_exponents Y11_exponents 2 2 [.int (iI s), .int (iI j)] (.int (iI (xExp T t s j))) := by
  refine ⟨fun h => ∃ G1 L1, h = fw cT G1 L1 ∧ cI T t k m bs q th rs G1 L1, fun h => ∃ G1 L1, h = fw mT G1 L1 ∧ mJ T t k m bs q th ra rb G1 L1, fv_mono (C10_exponents G L T t hC.1 s j s1 s2 j1 j2) ?_, fv_mono (C11_exponents G' L' T t hM.1  s j s1 s2 j1 j2) ?_, ?_⟩
  · rintro r g al ⟨rfl, rfl, rfl⟩; exact ⟨rfl, rfl, G, L, rfl, hC⟩
  · rintro r g al ⟨rfl, rfl, rfl⟩; exact ⟨rfl, rfl, G', L', rfl, hM⟩
  · rintro h i ⟨G1, L1, rfl, w1⟩ ⟨G3, L3, rfl, w3⟩
    exact ⟨T, t, k, m, bs, q, th, rs, ra, rb, G1, L1, G3, L3, rfl, rfl, hB, w1, w3⟩
theorem p_number (hB : bth T t k m bs q th rs ra rb) (hC : cI T t k m bs q th rs G L) (hM : mJ T t k m bs q th ra rb G' L') (s c : Int) (s1 : -2147483648 ≤ s) (s2 : s < 2147483648) (c1 : -2147483648 ≤ c) (c2 : c < 2147483648) : pr (fw cT G L) (fw mT G' L') Y10_number Y11_number 3 2 [.int (iI s), .int (iI c)] (.long (xNum T t s c)) := by
  refine ⟨fun h => ∃ G1 L1, h = fw cT G1 L1 ∧ cI T t k m bs q th rs G1 L1, fun h => ∃ G1 L1, h = fw mT G1 L1 ∧ mJ T t k m bs q th ra rb G1 L1, fv_mono (C10_number G L T t hC.1 s c s1 s2 c1 c2) ?_, fv_mono (C11_number G' L' T t hM.1 hB.1 s c s1 s2 c1 c2) ?_, ?_⟩
  · rintro r g al ⟨rfl, rfl, rfl⟩; exact ⟨rfl, rfl, G, L, rfl, hC⟩
  · rintro r g al ⟨rfl, rfl, rfl⟩; exact ⟨rfl, rfl, G', L', rfl, hM⟩
  · rintro h i ⟨G1, L1, rfl, w1⟩ ⟨G3, L3, rfl, w3⟩
    exact ⟨T, t, k, m, bs, q, th, rs, ra, rb, G1, L1, G3, L3, rfl, rfl, hB, w1, w3⟩
theorem p_same (hB : bth T t k m bs q th rs ra rb) (hC : cI T t k m bs q th rs G L) (hM : mJ T t k m bs q th ra rb G' L') (a b : Int) (a1 : -2147483648 ≤ a) (a2 : a < 2147483648) (b1 : -2147483648 ≤ b) (b2 : b < 2147483648) : pr (fw cT G L) (fw mT G' L') Y10_same Y11_same 2 2 [.int (iI a), .int (iI b)] (.int (iI (xSam T t a b))) := by
  refine ⟨fun h => ∃ G1 L1, h = fw cT G1 L1 ∧ cI T t k m bs q th rs G1 L1, fun h => ∃ G1 L1, h = fw mT G1 L1 ∧ mJ T t k m bs q th ra rb G1 L1, fv_mono (C10_same G L T t hC.1 a b a1 a2 b1 b2) ?_, fv_mono (C11_same G' L' T t hM.1 hB.1 a b a1 a2 b1 b2) ?_, ?_⟩
  · rintro r g al ⟨rfl, rfl, rfl⟩; exact ⟨rfl, rfl, G, L, rfl, hC⟩
  · rintro r g al ⟨rfl, rfl, rfl⟩; exact ⟨rfl, rfl, G', L', rfl, hM⟩
  · rintro h i ⟨G1, L1, rfl, w1⟩ ⟨G3, L3, rfl, w3⟩
    exact ⟨T, t, k, m, bs, q, th, rs, ra, rb, G1, L1, G3, L3, rfl, rfl, hB, w1, w3⟩
theorem p_count (hB : bth T t k m bs q th rs ra rb) (hC : cI T t k m bs q th rs G L) (hM : mJ T t k m bs q th ra rb G' L') (w : Int) (w1 : -2147483648 ≤ w) (w2 : w < 2147483648) : pr (fw cT G L) (fw mT G' L') Y10_count Y11_count 3 0 [.int (iI w)] (.int (iI (xCou (kpt t 12 0 0) bs.length k m q (rct th 8 0 0) w))) := by
  refine ⟨fun h => ∃ G1 L1, h = fw cT G1 L1 ∧ cI T t k m bs q th rs G1 L1, fun h => ∃ G1 L1, h = fw mT G1 L1 ∧ mJ T t k m bs q th ra rb G1 L1, fv_mono (C10_count G L T t hC.1 k m bs hC.2.2.1 q th rs hC.2.2.2 w w1 w2) ?_, fv_mono (C11_count G' L' T t hM.1 k m bs hM.2.1 q th ⟨hM.2.2.1.1, hM.2.2.2.1⟩ w w1 w2) ?_, ?_⟩
  · rintro r g al ⟨rfl, rfl, rfl⟩; exact ⟨rfl, rfl, G, L, rfl, hC⟩
  · rintro r g al ⟨rfl, rfl, rfl⟩; exact ⟨rfl, rfl, G', L', rfl, hM⟩
  · rintro h i ⟨G1, L1, rfl, w1⟩ ⟨G3, L3, rfl, w3⟩
    exact ⟨T, t, k, m, bs, q, th, rs, ra, rb, G1, L1, G3, L3, rfl, rfl, hB, w1, w3⟩
theorem p_digest (hB : bth T t k m bs q th rs ra rb) (hC : cI T t k m bs q th rs G L) (hM : mJ T t k m bs q th ra rb G' L')  : pr (fw cT G L) (fw mT G' L') Y10_digest Y11_digest 4 2 [] (.long (xDig (xCou (kpt t 12 0 0) bs.length k m q (rct th 8 0 0)) T t bs)) := by
  refine ⟨fun h => ∃ G1 L1, h = fw cT G1 L1 ∧ cI T t k m bs q th rs G1 L1, fun h => ∃ G1 L1, h = fw mT G1 L1 ∧ mJ T t k m bs q th ra rb G1 L1, fv_mono (C10_digest G L T t hC.1 k m bs hC.2.2.1 q th rs hC.2.2.2) ?_, fv_mono (C11_digest G' L' T t hM.1 k m bs hM.2.1 q th ⟨hM.2.2.1.1, hM.2.2.2.1⟩) ?_, ?_⟩
  · rintro r g al ⟨rfl, rfl, rfl⟩; exact ⟨rfl, rfl, G, L, rfl, hC⟩
  · rintro r g al ⟨rfl, rfl, rfl⟩; exact ⟨rfl, rfl, G', L', rfl, hM⟩
  · rintro h i ⟨G1, L1, rfl, w1⟩ ⟨G3, L3, rfl, w3⟩
    exact ⟨T, t, k, m, bs, q, th, rs, ra, rb, G1, L1, G3, L3, rfl, rfl, hB, w1, w3⟩
theorem p_add (hB : bth T t k m bs q th rs ra rb) (hC : cI T t k m bs q th rs G L) (hM : mJ T t k m bs q th ra rb G' L') (s : Int) (x : Int64) (c : Int) (s1 : -2147483648 ≤ s) (s2 : s < 2147483648) (c1 : -2147483648 ≤ c) (c2 : c < 2147483648) : pr (fw cT G L) (fw mT G' L') Y10_add Y11_add 4 3 [.int (iI s), .long x, .int (iI c)] (.int (iI (xAdd T t s x c))) := by
  refine ⟨fun h => ∃ G1 L1, h = fw cT G1 L1 ∧ cI (sT T (s.toNat) (xAdd T t s x c) (trm (uAdd T s c x))) (sB t (s.toNat) (xAdd T t s x c)) k m bs q th rs G1 L1, fun h => ∃ G1 L1, h = fw mT G1 L1 ∧ mJ (sT T (s.toNat) (xAdd T t s x c) (trm (uAdd T s c x))) (sB t (s.toNat) (xAdd T t s x c)) k m bs q th ra rb G1 L1, fv_mono (C10_add G L T t hC.1 hB.1 hC.2.1 s x c s1 s2 c1 c2) ?_, fv_mono (C11_add G' L' T t hM.1 hB.1 s x c s1 s2 c1 c2) ?_, ?_⟩
  · rintro r g al ⟨G2, L2, rfl, rfl, rfl, w1, w2, w3⟩; exact ⟨rfl, rfl, G2, L2, rfl, cI_s hC w2 w1 w3.1⟩
  · rintro r g al ⟨G2, L2, rfl, rfl, rfl, w1, w2⟩; exact ⟨rfl, rfl, G2, L2, rfl, mJ_s hM w1 (fun i j w => w2.1 i j (by omega) (by omega))⟩
  · rintro h i ⟨G1, L1, rfl, w1⟩ ⟨G3, L3, rfl, w3⟩
    have d := d_ok (c := s.toNat) hB.1 hB.2.1 (k_Add hB.1 s x c)
    exact ⟨_, _, k, m, bs, q, th, rs, ra, rb, G1, L1, G3, L3, rfl, rfl, ⟨d.1, d.2, hB.2.2⟩, w1, w3⟩
theorem p_sum (hB : bth T t k m bs q th rs ra rb) (hC : cI T t k m bs q th rs G L) (hM : mJ T t k m bs q th ra rb G' L') (c a b n : Int) (c1 : -2147483648 ≤ c) (c2 : c < 2147483648) (a1 : -2147483648 ≤ a) (a2 : a < 2147483648) (b1 : -2147483648 ≤ b) (b2 : b < 2147483648) (n1 : -2147483648 ≤ n) (n2 : n < 2147483648) : pr (fw cT G L) (fw mT G' L') Y10_sum Y11_sum 4 3 [.int (iI c), .int (iI a), .int (iI b), .int (iI n)] (.int (iI (xSum T t c a b n))) := by
  refine ⟨fun h => ∃ G1 L1, h = fw cT G1 L1 ∧ cI (sT T (c.toNat) (xSum T t c a b n) (trm (uSum T a b n))) (sB t (c.toNat) (xSum T t c a b n)) k m bs q th rs G1 L1, fun h => ∃ G1 L1, h = fw mT G1 L1 ∧ mJ (sT T (c.toNat) (xSum T t c a b n) (trm (uSum T a b n))) (sB t (c.toNat) (xSum T t c a b n)) k m bs q th ra rb G1 L1, fv_mono (C10_sum G L T t hC.1 hB.1 hC.2.1 c a b n c1 c2 a1 a2 b1 b2 n1 n2) ?_, fv_mono (C11_sum G' L' T t hM.1 hB.1 c a b n c1 c2 a1 a2 b1 b2 n1 n2) ?_, ?_⟩
  · rintro r g al ⟨G2, L2, rfl, rfl, rfl, w1, w2, w3⟩; exact ⟨rfl, rfl, G2, L2, rfl, cI_s hC w2 w1 w3.1⟩
  · rintro r g al ⟨G2, L2, rfl, rfl, rfl, w1, w2⟩; exact ⟨rfl, rfl, G2, L2, rfl, mJ_s hM w1 (fun i j w => w2.1 i j (by omega) (by omega))⟩
  · rintro h i ⟨G1, L1, rfl, w1⟩ ⟨G3, L3, rfl, w3⟩
    have d := d_ok (c := c.toNat) hB.1 hB.2.1 (k_Sum hB.1 c a b n)
    exact ⟨_, _, k, m, bs, q, th, rs, ra, rb, G1, L1, G3, L3, rfl, rfl, ⟨d.1, d.2, hB.2.2⟩, w1, w3⟩
theorem p_product (hB : bth T t k m bs q th rs ra rb) (hC : cI T t k m bs q th rs G L) (hM : mJ T t k m bs q th ra rb G' L') (c a b : Int) (c1 : -2147483648 ≤ c) (c2 : c < 2147483648) (a1 : -2147483648 ≤ a) (a2 : a < 2147483648) (b1 : -2147483648 ≤ b) (b2 : b < 2147483648) : pr (fw cT G L) (fw mT G' L') Y10_product Y11_product 5 3 [.int (iI c), .int (iI a), .int (iI b)] (.int (iI (xPro T t c a b))) := by
  refine ⟨fun h => ∃ G1 L1, h = fw cT G1 L1 ∧ cI (sT T (c.toNat) (xPro T t c a b) (trm (uPro T a b))) (sB t (c.toNat) (xPro T t c a b)) k m bs q th rs G1 L1, fun h => ∃ G1 L1, h = fw mT G1 L1 ∧ mJ (sT T (c.toNat) (xPro T t c a b) (trm (uPro T a b))) (sB t (c.toNat) (xPro T t c a b)) k m bs q th ra rb G1 L1, fv_mono (C10_product G L T t hC.1 hB.1 hC.2.1 c a b c1 c2 a1 a2 b1 b2) ?_, fv_mono (C11_product G' L' T t hM.1 hB.1 c a b c1 c2 a1 a2 b1 b2) ?_, ?_⟩
  · rintro r g al ⟨G2, L2, rfl, rfl, rfl, w1, w2, w3⟩; exact ⟨rfl, rfl, G2, L2, rfl, cI_s hC w2 w1 w3.1⟩
  · rintro r g al ⟨G2, L2, rfl, rfl, rfl, w1, w2⟩; exact ⟨rfl, rfl, G2, L2, rfl, mJ_s hM w1 (fun i j w => w2.1 i j (by omega) (by omega))⟩
  · rintro h i ⟨G1, L1, rfl, w1⟩ ⟨G3, L3, rfl, w3⟩
    have d := d_ok (c := c.toNat) hB.1 hB.2.1 (k_Pro hB.1 c a b)
    exact ⟨_, _, k, m, bs, q, th, rs, ra, rb, G1, L1, G3, L3, rfl, rfl, ⟨d.1, d.2, hB.2.2⟩, w1, w3⟩
theorem p_turned (hB : bth T t k m bs q th rs ra rb) (hC : cI T t k m bs q th rs G L) (hM : mJ T t k m bs q th ra rb G' L') (c a i : Int) (c1 : -2147483648 ≤ c) (c2 : c < 2147483648) (a1 : -2147483648 ≤ a) (a2 : a < 2147483648) (i1 : -2147483648 ≤ i) (i2 : i < 2147483648) : pr (fw cT G L) (fw mT G' L') Y10_turned Y11_turned 5 3 [.int (iI c), .int (iI a), .int (iI i)] (.int (iI (xTur T t c a i))) := by
  refine ⟨fun h => ∃ G1 L1, h = fw cT G1 L1 ∧ cI (sT T (c.toNat) (xTur T t c a i) (trm (uTur T a i))) (sB t (c.toNat) (xTur T t c a i)) k m bs q th rs G1 L1, fun h => ∃ G1 L1, h = fw mT G1 L1 ∧ mJ (sT T (c.toNat) (xTur T t c a i) (trm (uTur T a i))) (sB t (c.toNat) (xTur T t c a i)) k m bs q th ra rb G1 L1, fv_mono (C10_turned G L T t hC.1 hB.1 hC.2.1 c a i c1 c2 a1 a2 i1 i2) ?_, fv_mono (C11_turned G' L' T t hM.1 hB.1 hB.2.1 c a i c1 c2 a1 a2 i1 i2) ?_, ?_⟩
  · rintro r g al ⟨G2, L2, rfl, rfl, rfl, w1, w2, w3⟩; exact ⟨rfl, rfl, G2, L2, rfl, cI_s hC w2 w1 w3.1⟩
  · rintro r g al ⟨G2, L2, rfl, rfl, rfl, w1, w2⟩; exact ⟨rfl, rfl, G2, L2, rfl, mJ_s hM w1 (fun i j w => w2.1 i j (by omega) (by omega))⟩
  · rintro h i ⟨G1, L1, rfl, w1⟩ ⟨G3, L3, rfl, w3⟩
    have d := d_ok (c := c.toNat) hB.1 hB.2.1 (k_Tur hB.1 c a i)
    exact ⟨_, _, k, m, bs, q, th, rs, ra, rb, G1, L1, G3, L3, rfl, rfl, ⟨d.1, d.2, hB.2.2⟩, w1, w3⟩
theorem p_difference (hB : bth T t k m bs q th rs ra rb) (hC : cI T t k m bs q th rs G L) (hM : mJ T t k m bs q th ra rb G' L') (c a i : Int) (c1 : -2147483648 ≤ c) (c2 : c < 2147483648) (a1 : -2147483648 ≤ a) (a2 : a < 2147483648) (i1 : -2147483648 ≤ i) (i2 : i < 2147483648) : pr (fw cT G L) (fw mT G' L') Y10_difference Y11_difference 5 3 [.int (iI c), .int (iI a), .int (iI i)] (.int (iI (xDif T t c a i))) := by
  refine ⟨fun h => ∃ G1 L1, h = fw cT G1 L1 ∧ cI (sT T (c.toNat) (xDif T t c a i) (trm (uDif T a i))) (sB t (c.toNat) (xDif T t c a i)) k m bs q th rs G1 L1, fun h => ∃ G1 L1, h = fw mT G1 L1 ∧ mJ (sT T (c.toNat) (xDif T t c a i) (trm (uDif T a i))) (sB t (c.toNat) (xDif T t c a i)) k m bs q th ra rb G1 L1, fv_mono (C10_difference G L T t hC.1 hB.1 hC.2.1 c a i c1 c2 a1 a2 i1 i2) ?_, fv_mono (C11_difference G' L' T t hM.1 hB.1 c a i c1 c2 a1 a2 i1 i2) ?_, ?_⟩
  · rintro r g al ⟨G2, L2, rfl, rfl, rfl, w1, w2, w3⟩; exact ⟨rfl, rfl, G2, L2, rfl, cI_s hC w2 w1 w3.1⟩
  · rintro r g al ⟨G2, L2, rfl, rfl, rfl, w1, w2⟩; exact ⟨rfl, rfl, G2, L2, rfl, mJ_s hM w1 (fun i j w => w2.1 i j (by omega) (by omega))⟩
  · rintro h i ⟨G1, L1, rfl, w1⟩ ⟨G3, L3, rfl, w3⟩
    have d := d_ok (c := c.toNat) hB.1 hB.2.1 (k_Dif hB.1 c a i)
    exact ⟨_, _, k, m, bs, q, th, rs, ra, rb, G1, L1, G3, L3, rfl, rfl, ⟨d.1, d.2, hB.2.2⟩, w1, w3⟩
theorem p_polynomial (hB : bth T t k m bs q th rs ra rb) (hC : cI T t k m bs q th rs G L) (hM : mJ T t k m bs q th ra rb G' L') (c o : Int) (c1 : -2147483648 ≤ c) (c2 : c < 2147483648) (o1 : -2147483648 ≤ o) (o2 : o < 2147483648) : pr (fw cT G L) (fw mT G' L') Y10_polynomial Y11_polynomial 6 3 [.int (iI c), .int (iI o)] (.int (iI (xPol c o))) := by
  refine ⟨fun h => ∃ G1 L1, h = fw cT G1 L1 ∧ cI (sT T (c.toNat) (xPol c o) (uPol o)) (sB t (c.toNat) (xPol c o)) k m bs q th rs G1 L1, fun h => ∃ G1 L1, h = fw mT G1 L1 ∧ mJ (sT T (c.toNat) (xPol c o) (uPol o)) (sB t (c.toNat) (xPol c o)) k m bs q th ra rb G1 L1, fv_mono (C10_polynomial G L T t hC.1 hB.1 hC.2.1 c o c1 c2 o1 o2) ?_, fv_mono (C11_polynomial G' L' T t hM.1  c o c1 c2 o1 o2) ?_, ?_⟩
  · rintro r g al ⟨G2, L2, rfl, rfl, rfl, w1, w2, w3⟩; exact ⟨rfl, rfl, G2, L2, rfl, cI_s hC w2 w1 w3.1⟩
  · rintro r g al ⟨G2, L2, e0, rfl, rfl, w1, w2⟩
    have e := (yPol_x c o).1
    rw [e] at e0 w1
    have w1 : msh G2 L2 (sT T c.toNat (xPol c o) (uPol o)) (sB t c.toNat (xPol c o)) := by
      by_cases z : figs o ≠ 0
      · rw [(yPol_x c o).2 z] at w1; exact w1
      · have zn : xPol c o < 0 := by
          unfold xPol; rw [if_neg (fun y => z y.2)]; decide
        have z1 := sTB_n zn T t c.toNat (trm (mpo o.toNat))
        have z2 := sTB_n zn T t c.toNat (uPol o)
        rw [z1.1, z1.2] at w1
        rw [z2.1, z2.2]
        exact w1
    exact ⟨e0, rfl, G2, L2, rfl, mJ_s hM w1 (fun i j w => w2.1 i j (by omega) (by omega))⟩
  · rintro h i ⟨G1, L1, rfl, w1⟩ ⟨G3, L3, rfl, w3⟩
    have d := d_ok (c := c.toNat) hB.1 hB.2.1 (k_Pol c o)
    exact ⟨_, _, k, m, bs, q, th, rs, ra, rb, G1, L1, G3, L3, rfl, rfl, ⟨d.1, d.2, hB.2.2⟩, w1, w3⟩
theorem p_part (hB : bth T t k m bs q th rs ra rb) (hC : cI T t k m bs q th rs G L) (hM : mJ T t k m bs q th ra rb G' L') (a o : Int) (a1 : -2147483648 ≤ a) (a2 : a < 2147483648) (o1 : -2147483648 ≤ o) (o2 : o < 2147483648) : pr (fw cT G L) (fw mT G' L') Y10_part Y11_part 7 3 [.int (iI a), .int (iI o)] (.long (xPar T t a o)) := by
  refine ⟨fun h => ∃ G1 L1, h = fw cT G1 L1 ∧ cI T t k m bs q th rs G1 L1, fun h => ∃ G1 L1, h = fw mT G1 L1 ∧ mJ T t k m bs q th ra rb G1 L1, fv_mono (C10_part G L T t hC.1 hB.1 hC.2.1 a o a1 a2 o1 o2) ?_, fv_mono (C11_part G' L' T t hM.1 hB.1 hB.2.1 a o a1 a2 o1 o2) ?_, ?_⟩
  · rintro r g al ⟨G2, L2, rfl, rfl, rfl, w1, w2, w3⟩; exact ⟨rfl, rfl, G2, L2, rfl, cI_s hC w2 w1 w3.1⟩
  · rintro r g al ⟨G2, L2, rfl, rfl, rfl, w1, w2⟩; exact ⟨rfl, rfl, G2, L2, rfl, mJ_s hM w1 (fun i j w => w2.1 i j (by omega) (by omega))⟩
  · rintro h i ⟨G1, L1, rfl, w1⟩ ⟨G3, L3, rfl, w3⟩
    exact ⟨T, t, k, m, bs, q, th, rs, ra, rb, G1, L1, G3, L3, rfl, rfl, hB, w1, w3⟩
theorem p_constant (hB : bth T t k m bs q th rs ra rb) (hC : cI T t k m bs q th rs G L) (hM : mJ T t k m bs q th ra rb G' L') (u v w : Int) (u1 : -2147483648 ≤ u) (u2 : u < 2147483648) (v1 : -2147483648 ≤ v) (v2 : v < 2147483648) (w1 : -2147483648 ≤ w) (w2 : w < 2147483648) : pr (fw cT G L) (fw mT G' L') Y10_constant Y11_constant 7 3 [.int (iI u), .int (iI v), .int (iI w)] (.long (xCon u v w)) := by
  refine ⟨fun h => ∃ G1 L1, h = fw cT G1 L1 ∧ cI T t k m bs q th rs G1 L1, fun h => ∃ G1 L1, h = fw mT G1 L1 ∧ mJ T t k m bs q th ra rb G1 L1, fv_mono (C10_constant G L T t hC.1 hB.1 hC.2.1 u v w u1 u2 v1 v2 w1 w2) ?_, fv_mono (C11_constant G' L' T t hM.1 u v w u1 u2 v1 v2 w1 w2) ?_, ?_⟩
  · rintro r g al ⟨G2, L2, rfl, rfl, rfl, w1, w2, w3⟩; exact ⟨rfl, rfl, G2, L2, rfl, cI_s hC w2 w1 w3.1⟩
  · rintro r g al ⟨G2, L2, rfl, rfl, rfl, w1, w2⟩; exact ⟨by rw [yCon_x], rfl, G2, L2, rfl, mJ_s hM w1 (fun i j w => w2.1 i j (by omega) (by omega))⟩
  · rintro h i ⟨G1, L1, rfl, w1⟩ ⟨G3, L3, rfl, w3⟩
    exact ⟨T, t, k, m, bs, q, th, rs, ra, rb, G1, L1, G3, L3, rfl, rfl, hB, w1, w3⟩
theorem p_meeting (hB : bth T t k m bs q th rs ra rb) (hC : cI T t k m bs q th rs G L) (hM : mJ T t k m bs q th ra rb G' L')  : pr (fw cT G L) (fw mT G' L') Y10_meeting Y11_meeting 29 3 [] (.long (xMet k m bs)) := by
  refine ⟨fun h => ∃ G1 L1, h = fw cT G1 L1 ∧ cI T t k m bs q th rs G1 L1, fun h => ∃ G1 L1, h = fw mT G1 L1 ∧ mJ T t k m bs q th ra rb G1 L1, fv_mono (C10_meeting G L k m bs hC.2.2.1 hB.2.2.1.1 hB.2.2.1.2.1 hB.2.2.1.2.2.1 hB.2.2.1.2.2.2 hB.2.2.2.1) ?_, fv_mono (C11_meeting G' L' k m bs hM.2.1 hB.2.2.1.1 hB.2.2.1.2.1 hB.2.2.1.2.2.1 hB.2.2.1.2.2.2 hB.2.2.2.1) ?_, ?_⟩
  · rintro r g al ⟨G2, L2, rfl, rfl, rfl, w1, w2⟩; exact ⟨rfl, rfl, G2, L2, rfl, cI_k hC (fun i w => w1 i (by omega) (by omega)) (w2 4 (by decide) (by decide))⟩
  · rintro r g al ⟨G2, L2, rfl, rfl, rfl, w1, w2⟩; exact ⟨rfl, rfl, G2, L2, rfl, mJ_k hM (fun i j w => congrFun (w1 i (by omega) (by omega) (by omega) (by omega) (by omega) (by omega) (by omega) (by omega) (by omega)) j) (w2 6 (by decide) (by decide))⟩
  · rintro h i ⟨G1, L1, rfl, w1⟩ ⟨G3, L3, rfl, w3⟩
    exact ⟨T, t, k, m, bs, q, th, rs, ra, rb, G1, L1, G3, L3, rfl, rfl, hB, w1, w3⟩
theorem p_begin (hB : bth T t k m bs q th rs ra rb) (hC : cI T t k m bs q th rs G L) (hM : mJ T t k m bs q th ra rb G' L') (a b : Int) (a1 : -2147483648 ≤ a) (a2 : a < 2147483648) (b1 : -2147483648 ≤ b) (b2 : b < 2147483648) : pr (fw cT G L) (fw mT G' L') Y10_begin Y11_begin 1 2 [.int (iI a), .int (iI b)] (.int (iI (xBeg bs.length a b))) := by
  refine ⟨fun h => ∃ G1 L1, h = fw cT G1 L1 ∧ cI T t (if isSh a b = true then a.toNat else k) (if isSh a b = true then b.toNat else m) (if isSh a b = true then [] else bs) q th rs G1 L1, fun h => ∃ G1 L1, h = fw mT G1 L1 ∧ mJ T t (if isSh a b = true then a.toNat else k) (if isSh a b = true then b.toNat else m) (if isSh a b = true then [] else bs) q th ra rb G1 L1, fv_mono (C10_begin G L k m bs hC.2.2.1 a b a1 a2 b1 b2) ?_, fv_mono (C11_begin G' L' k m bs hM.2.1 a b a1 a2 b1 b2) ?_, ?_⟩
  · rintro r g al ⟨G2, rfl, rfl, rfl, w1, w2⟩; exact ⟨rfl, rfl, G2, L, rfl, csh_k hC.1 (fun i hi => w2 i (by omega) (by omega)), emp_k hC.2.1 (w2 5 (by decide) (by decide)) rfl, w1, spc_k hC.2.2.2 (fun i _ _ => w2 i (by omega) (by omega))⟩
  · rintro r g al ⟨G2, rfl, rfl, rfl, w1, w2⟩; exact ⟨rfl, rfl, G2, L', rfl, msh_G hM.1 (fun i j hi => w2 i j (by omega) (by omega) (by omega)) rfl, w1, msq_k hM.2.2.1 (w2 0 27 (by omega) (by omega) (by omega)) (funext fun j => w2 29 j (by omega) (by omega) (by omega)) (funext fun j => w2 30 j (by omega) (by omega) (by omega)), mrd_k hM.2.2.2 (fun i hi => funext fun j => w2 i j (by omega) (by omega) (by omega))⟩
  · rintro h i ⟨G1, L1, rfl, w1⟩ ⟨G3, L3, rfl, w3⟩
    have d : bth T t (if isSh a b = true then a.toNat else k) (if isSh a b = true then b.toNat else m) (if isSh a b = true then [] else bs) q th rs ra rb := by
      refine ⟨hB.1, hB.2.1, ?_, ?_, hB.2.2.2.2⟩
      · by_cases z : isSh a b = true
        · have := isSh_1 z
          rw [if_pos z, if_pos z]
          omega
        · rw [if_neg z, if_neg z]
          exact hB.2.2.1
      · by_cases z : isSh a b = true
        · rw [if_pos z, if_pos z, if_pos z]
          intro j hj
          exact absurd hj (Nat.not_lt_zero _)
        · rw [if_neg z, if_neg z, if_neg z]
          exact hB.2.2.2.1
    exact ⟨_, _, _, _, _, q, th, rs, ra, rb, G1, L1, G3, L3, rfl, rfl, d, w1, w3⟩
theorem p_condition (hB : bth T t k m bs q th rs ra rb) (hC : cI T t k m bs q th rs G L) (hM : mJ T t k m bs q th ra rb G' L') (b : Int) (b1 : -2147483648 ≤ b) (b2 : b < 2147483648) : pr (fw cT G L) (fw mT G' L') Y10_condition Y11_condition 3 2 [.int (iI b)] (.int (iI (xCnd k m bs.length b))) := by
  refine ⟨fun h => ∃ G1 L1, h = fw cT G1 L1 ∧ cI T t k m (if isBx k m b = true ∧ bs.length < 16 then bs ++ [b.toNat] else bs) q th rs G1 L1, fun h => ∃ G1 L1, h = fw mT G1 L1 ∧ mJ T t k m (if isBx k m b = true ∧ bs.length < 16 then bs ++ [b.toNat] else bs) q th ra rb G1 L1, fv_mono (C10_condition G L k m bs hC.2.2.1 hB.2.2.1.2.1 hB.2.2.1.2.2.2 b b1 b2) ?_, fv_mono (C11_condition G' L' k m bs hM.2.1 hB.2.2.1.1 hB.2.2.1.2.1 hB.2.2.1.2.2.1 hB.2.2.1.2.2.2 b b1 b2) ?_, ?_⟩
  · rintro r g al ⟨G2, rfl, rfl, rfl, w1, w2⟩; exact ⟨rfl, rfl, G2, L, rfl, csh_k hC.1 (fun i hi => w2 i (by omega) (by omega)), emp_k hC.2.1 (w2 5 (by decide) (by decide)) rfl, w1, spc_k hC.2.2.2 (fun i _ _ => w2 i (by omega) (by omega))⟩
  · rintro r g al ⟨G2, rfl, rfl, rfl, w1, w2⟩; exact ⟨rfl, rfl, G2, L', rfl, msh_G hM.1 (fun i j hi => w2 i j (by omega) (by omega) (by omega)) rfl, w1, msq_k hM.2.2.1 (w2 0 27 (by omega) (by omega) (by omega)) (funext fun j => w2 29 j (by omega) (by omega) (by omega)) (funext fun j => w2 30 j (by omega) (by omega) (by omega)), mrd_k hM.2.2.2 (fun i hi => funext fun j => w2 i j (by omega) (by omega) (by omega))⟩
  · rintro h i ⟨G1, L1, rfl, w1⟩ ⟨G3, L3, rfl, w3⟩
    have d : bth T t k m (if isBx k m b = true ∧ bs.length < 16 then bs ++ [b.toNat] else bs) q th rs ra rb := by
      refine ⟨hB.1, hB.2.1, hB.2.2.1, ?_, hB.2.2.2.2⟩
      by_cases z : isBx k m b = true ∧ bs.length < 16
      · rw [if_pos z]
        intro j hj
        rw [List.length_append, List.length_singleton] at hj
        by_cases z2 : j < bs.length
        · rw [gdN_l _ _ z2]
          exact hB.2.2.2.1 j z2
        · have zj : j = bs.length := by omega
          rw [zj, gdN_e]
          have z3 := isBx_s z.1
          have z4 := isBx_v z.1
          rw [Int.toNat_natCast, Int.toNat_natCast] at z4
          exact ⟨by omega, z4⟩
      · rw [if_neg z]
        exact hB.2.2.2.1
    exact ⟨_, _, _, _, _, q, th, rs, ra, rb, G1, L1, G3, L3, rfl, rfl, d, w1, w3⟩
theorem p_field (hB : bth T t k m bs q th rs ra rb) (hC : cI T t k m bs q th rs G L) (hM : mJ T t k m bs q th ra rb G' L') (f : Int) (f1 : -2147483648 ≤ f) (f2 : f < 2147483648) : pr (fw cT G L) (fw mT G' L') Y10_field Y11_field 2 2 [.int (iI f)] (.int (iI (xFie q f))) := by
  refine ⟨fun h => ∃ G1 L1, h = fw cT G1 L1 ∧ cI T t k m bs (if f = 2 ∨ f = 3 ∨ f = 5 then f.toNat else q) (if f = 2 ∨ f = 3 ∨ f = 5 then tF else th) rs G1 L1, fun h => ∃ G1 L1, h = fw mT G1 L1 ∧ mJ T t k m bs (if f = 2 ∨ f = 3 ∨ f = 5 then f.toNat else q) (if f = 2 ∨ f = 3 ∨ f = 5 then tF else th) ra rb G1 L1, fv_mono (C10_field G L q th rs hC.2.2.2 f f1 f2) ?_, fv_mono (C11_field G' L' q hM.2.2.1.1 f f1 f2) ?_, ?_⟩
  · rintro r g al ⟨G2, rfl, rfl, rfl, w1, w2⟩; exact ⟨rfl, rfl, G2, L, rfl, csh_k hC.1 (fun i hi => w2 i (by omega)), emp_k hC.2.1 (w2 5 (by omega)) rfl, lsp_o hC.2.2.1 (w2 15 (by omega)) (w2 27 (by omega)), w1⟩
  · rintro r g al ⟨G2, rfl, rfl, rfl, w1, w2, w3⟩
    refine ⟨rfl, rfl, G2, L', rfl, ?_⟩
    by_cases z : f = 2 ∨ f = 3 ∨ f = 5
    · rw [if_pos z, if_pos z]
      obtain ⟨z1, z2⟩ := w3 z
      exact ⟨msh_G hM.1 (fun i j hi => w1 i j (by omega) (by omega) (by omega) (by omega)) rfl, mlp_o hM.2.1 (fun j hj => w1 0 j (by omega) (by omega) (by omega) (by omega)) (funext fun j => w1 20 j (by omega) (by omega) (by omega) (by omega)), z1, fun r hr => z2 r hr, fun r hr ht => by cases ht⟩
    · rw [if_neg z, if_neg z, w2 z]
      exact hM
  · rintro h i ⟨G1, L1, rfl, w1⟩ ⟨G3, L3, rfl, w3⟩
    have d : rds (if f = 2 ∨ f = 3 ∨ f = 5 then f.toNat else q) (if f = 2 ∨ f = 3 ∨ f = 5 then tF else th) rs ra rb := by
      by_cases z : f = 2 ∨ f = 3 ∨ f = 5
      · rw [if_pos z, if_pos z]
        intro r hr ht
        cases ht
      · rw [if_neg z, if_neg z]
        exact hB.2.2.2.2
    exact ⟨T, t, k, m, bs, _, _, rs, ra, rb, G1, L1, G3, L3, rfl, rfl, ⟨hB.1, hB.2.1, hB.2.2.1, hB.2.2.2.1, d⟩, w1, w3⟩
theorem p_rod (hB : bth T t k m bs q th rs ra rb) (hC : cI T t k m bs q th rs G L) (hM : mJ T t k m bs q th ra rb G' L') (r a b : Int) (r1 : -2147483648 ≤ r) (r2 : r < 2147483648) (a1 : -2147483648 ≤ a) (a2 : a < 2147483648) (b1 : -2147483648 ≤ b) (b2 : b < 2147483648) : pr (fw cT G L) (fw mT G' L') Y10_rod Y11_rod 5 2 [.int (iI r), .int (iI a), .int (iI b)] (.int (iI (xRod q r a b))) := by
  refine ⟨fun h => ∃ G1 L1, h = fw cT G1 L1 ∧ cI T t k m bs q (if xRod q r a b = 1 then tS th r.toNat true else th) (if xRod q r a b = 1 then rS rs r.toNat (pln a.toNat b.toNat q) else rs) G1 L1, fun h => ∃ G1 L1, h = fw mT G1 L1 ∧ mJ T t k m bs q (if xRod q r a b = 1 then tS th r.toNat true else th) (fun z => if rodp q r a b = true ∧ z = r.toNat then evq q (pqo q a).toNat else ra z) (fun z => if rodp q r a b = true ∧ z = r.toNat then evq q (pqo q b).toNat else rb z) G1 L1, fv_mono (C10_rod G L q th rs hC.2.2.2 r a b r1 r2 a1 a2 b1 b2) ?_, fv_mono (C11_rod G' L' q hM.2.2.1 th ra rb hM.2.2.2 r a b r1 r2 a1 a2 b1 b2) ?_, ?_⟩
  · rintro r g al ⟨G2, rfl, rfl, rfl, w1, w2⟩; exact ⟨rfl, rfl, G2, L, rfl, csh_k hC.1 (fun i hi => w2 i (by omega)), emp_k hC.2.1 (w2 5 (by omega)) rfl, lsp_o hC.2.2.1 (w2 15 (by omega)) (w2 27 (by omega)), w1⟩
  · rintro r0 g al ⟨G2, e0, rfl, rfl, w1, w2⟩
    rw [tS_q hC.2.2.2.2.1 th r a b] at w2
    exact ⟨by rw [e0, (xRod_q hC.2.2.2.2.1 r a b).2], rfl, G2, L', rfl, msh_G hM.1 (fun i j hi => congrFun (w1 i (by omega) (by omega) (by omega)) j) rfl, mlp_o hM.2.1 (fun j hj => congrFun (w1 0 (by omega) (by omega) (by omega)) j) (w1 20 (by omega) (by omega) (by omega)), msq_k hM.2.2.1 (congrFun (w1 0 (by omega) (by omega) (by omega)) 27) (w1 29 (by omega) (by omega) (by omega)) (w1 30 (by omega) (by omega) (by omega)), w2⟩
  · rintro h i ⟨G1, L1, rfl, w1⟩ ⟨G3, L3, rfl, w3⟩
    exact ⟨T, t, k, m, bs, q, _, _, _, _, G1, L1, G3, L3, rfl, rfl, ⟨hB.1, hB.2.1, hB.2.2.1, hB.2.2.2.1, rds_r hC.2.2.2.2.1 hB.2.2.2.2 r a b⟩, w1, w3⟩
theorem p_drop (hB : bth T t k m bs q th rs ra rb) (hC : cI T t k m bs q th rs G L) (hM : mJ T t k m bs q th ra rb G' L') (r : Int) (r1 : -2147483648 ≤ r) (r2 : r < 2147483648) : pr (fw cT G L) (fw mT G' L') Y10_drop Y11_drop 2 1 [.int (iI r)] (.int (iI (xDro th r))) := by
  refine ⟨fun h => ∃ G1 L1, h = fw cT G1 L1 ∧ cI T t k m bs q (if isRd r = true then tS th r.toNat false else th) rs G1 L1, fun h => ∃ G1 L1, h = fw mT G1 L1 ∧ mJ T t k m bs q (if isRd r = true then tS th r.toNat false else th) ra rb G1 L1, fv_mono (C10_drop G L q th rs hC.2.2.2 r r1 r2) ?_, fv_mono (C11_drop G' L' th hM.2.2.2.1 r r1 r2) ?_, ?_⟩
  · rintro r g al ⟨G2, rfl, rfl, rfl, w1, w2⟩; exact ⟨rfl, rfl, G2, L, rfl, csh_k hC.1 (fun i hi => w2 i (by omega)), emp_k hC.2.1 (w2 5 (by omega)) rfl, lsp_o hC.2.2.1 (w2 15 (by omega)) (w2 27 (by omega)), w1⟩
  · rintro r0 g al ⟨G2, e0, rfl, rfl, w1, w2⟩
    have hrd : isRd r = true ↔ 0 ≤ r ∧ r ≤ 7 := ⟨fun w => by have := of_decide_eq_true (show decide (0 ≤ r ∧ r < 8) = true from w); omega, fun w => decide_eq_true (by omega)⟩
    have e1 : xDro th r = if 0 ≤ r ∧ r ≤ 7 then (if th r.toNat = true then 1 else -3) else -2 := by
      unfold xDro
      by_cases z : 0 ≤ r ∧ r ≤ 7
      · rw [if_pos z, if_pos (hrd.mpr z)]
      · rw [if_neg z, if_neg (fun y => z (hrd.mp y))]
    have w2 : ∀ x, x < 8 → G2 24 x = bI ((if isRd r = true then tS th r.toNat false else th) x) := by
      intro x hx
      rw [w2 x hx]
      congr 1
      by_cases z : 0 ≤ r ∧ r ≤ 7
      · rw [if_pos (hrd.mpr z)]
        unfold tS
        by_cases z2 : x = r.toNat
        · rw [if_pos z2, decide_eq_true (show 0 ≤ r ∧ r ≤ 7 ∧ x = r.toNat from ⟨z.1, z.2, z2⟩)]
          cases th x <;> rfl
        · rw [if_neg z2, decide_eq_false (fun y => z2 y.2.2)]
          cases th x <;> rfl
      · rw [if_neg (fun y => z (hrd.mp y)), decide_eq_false (fun y => z ⟨y.1, y.2.1⟩)]
        cases th x <;> rfl
    have w3 : ∀ x, x < 8 → (if isRd r = true then tS th r.toNat false else th) x = true → th x = true := by
      intro x hx
      by_cases z : isRd r = true
      · rw [if_pos z]
        unfold tS
        by_cases z2 : x = r.toNat
        · rw [if_pos z2]; intro y; cases y
        · rw [if_neg z2]; exact fun y => y
      · rw [if_neg z]; exact fun y => y
    refine ⟨by rw [e0, e1], rfl, G2, L', rfl, msh_G hM.1 (fun i j hi => congrFun (w1 i (by omega)) j) rfl, mlp_o hM.2.1 (fun j hj => congrFun (w1 0 (by omega)) j) (w1 20 (by omega)), msq_k hM.2.2.1 (congrFun (w1 0 (by omega)) 27) (w1 29 (by omega)) (w1 30 (by omega)), w2, fun x hx hxt => ?_⟩
    rw [w1 25 (by omega), w1 26 (by omega)]
    exact hM.2.2.2.2 x hx (w3 x hx hxt)
  · rintro h i ⟨G1, L1, rfl, w1⟩ ⟨G3, L3, rfl, w3⟩
    have d : rds q (if isRd r = true then tS th r.toNat false else th) rs ra rb := by
      intro x hx
      by_cases z : isRd r = true
      · rw [if_pos z]
        unfold tS
        by_cases z2 : x = r.toNat
        · rw [if_pos z2]; intro y; cases y
        · rw [if_neg z2]; exact hB.2.2.2.2 x hx
      · rw [if_neg z]; exact hB.2.2.2.2 x hx
    exact ⟨T, t, k, m, bs, q, _, rs, ra, rb, G1, L1, G3, L3, rfl, rfl, ⟨hB.1, hB.2.1, hB.2.2.1, hB.2.2.2.1, d⟩, w1, w3⟩
theorem p_meet (hB : bth T t k m bs q th rs ra rb) (hC : cI T t k m bs q th rs G L) (hM : mJ T t k m bs q th ra rb G' L') (a b : Int) (a1 : -2147483648 ≤ a) (a2 : a < 2147483648) (b1 : -2147483648 ≤ b) (b2 : b < 2147483648) : pr (fw cT G L) (fw mT G' L') Y10_meet Y11_meet 4 4 [.int (iI a), .int (iI b)] (.int (iI (xMee th rs q a b))) := by
  refine ⟨fun h => ∃ G1 L1, h = fw cT G1 L1 ∧ cI T t k m bs q th rs G1 L1, fun h => ∃ G1 L1, h = fw mT G1 L1 ∧ mJ T t k m bs q th ra rb G1 L1, fv_mono (C10_meet G L q th rs hC.2.2.2 a b a1 a2 b1 b2) ?_, fv_mono (C11_meet G' L' q hM.2.2.1 th ra rb hM.2.2.2 a b a1 a2 b1 b2) ?_, ?_⟩
  · rintro r g al ⟨rfl, rfl, rfl⟩; exact ⟨rfl, rfl, G, L, rfl, hC⟩
  · rintro r g al ⟨G2, rfl, rfl, rfl, h⟩; exact ⟨by rw [xMee_q hC.2.2.2.2.1 hB.2.2.2.2], rfl, G2, L', rfl, mJ_k hM (fun i j w => congrFun (h i (by omega) (by omega)) j) rfl⟩
  · rintro h i ⟨G1, L1, rfl, w1⟩ ⟨G3, L3, rfl, w3⟩
    exact ⟨T, t, k, m, bs, q, th, rs, ra, rb, G1, L1, G3, L3, rfl, rfl, hB, w1, w3⟩
theorem p_lines (hB : bth T t k m bs q th rs ra rb) (hC : cI T t k m bs q th rs G L) (hM : mJ T t k m bs q th ra rb G' L') (b : Int) (b1 : -2147483648 ≤ b) (b2 : b < 2147483648) : pr (fw cT G L) (fw mT G' L') Y10_lines Y11_lines 6 3 [.int (iI b)] (.int (iI (xLin th rs q b))) := by
  refine ⟨fun h => ∃ G1 L1, h = fw cT G1 L1 ∧ cI T t k m bs q th rs G1 L1, fun h => ∃ G1 L1, h = fw mT G1 L1 ∧ mJ T t k m bs q th ra rb G1 L1, fv_mono (C10_lines G L q th rs hC.2.2.2 b b1 b2) ?_, fv_mono (C11_lines G' L' q hM.2.2.1 th ra rb hM.2.2.2 b b1 b2) ?_, ?_⟩
  · rintro r g al ⟨G2, rfl, rfl, rfl, w1, w2⟩; exact ⟨rfl, rfl, G2, L, rfl, csh_k hC.1 (fun i hi => w2 i (by omega)), emp_k hC.2.1 (w2 5 (by omega)) rfl, lsp_o hC.2.2.1 (w2 15 (by omega)) (w2 27 (by omega)), w1⟩
  · rintro r g al ⟨G2, rfl, rfl, rfl, h⟩; exact ⟨by rw [xLin_q hC.2.2.2.2.1 hB.2.2.2.2], rfl, G2, L', rfl, mJ_k hM (fun i j w => h i j (by omega) (by omega) (by omega)) rfl⟩
  · rintro h i ⟨G1, L1, rfl, w1⟩ ⟨G3, L3, rfl, w3⟩
    exact ⟨T, t, k, m, bs, q, th, rs, ra, rb, G1, L1, G3, L3, rfl, rfl, hB, w1, w3⟩
theorem p_points (hB : bth T t k m bs q th rs ra rb) (hC : cI T t k m bs q th rs G L) (hM : mJ T t k m bs q th ra rb G' L') (b : Int) (b1 : -2147483648 ≤ b) (b2 : b < 2147483648) : pr (fw cT G L) (fw mT G' L') Y10_points Y11_points 6 3 [.int (iI b)] (.int (iI (xPoi th rs q b))) := by
  refine ⟨fun h => ∃ G1 L1, h = fw cT G1 L1 ∧ cI T t k m bs q th rs G1 L1, fun h => ∃ G1 L1, h = fw mT G1 L1 ∧ mJ T t k m bs q th ra rb G1 L1, fv_mono (C10_points G L q th rs hC.2.2.2 b b1 b2) ?_, fv_mono (C11_points G' L' q hM.2.2.1 th ra rb hM.2.2.2 b b1 b2) ?_, ?_⟩
  · rintro r g al ⟨G2, rfl, rfl, rfl, w1, w2⟩; exact ⟨rfl, rfl, G2, L, rfl, csh_k hC.1 (fun i hi => w2 i (by omega)), emp_k hC.2.1 (w2 5 (by omega)) rfl, lsp_o hC.2.2.1 (w2 15 (by omega)) (w2 27 (by omega)), w1⟩
  · rintro r g al ⟨G2, rfl, rfl, rfl, h⟩; exact ⟨by rw [xPoi_q hC.2.2.2.2.1 hB.2.2.2.2], rfl, G2, L', rfl, mJ_k hM (fun i j w => congrFun (h i (by omega)) j) rfl⟩
  · rintro h i ⟨G1, L1, rfl, w1⟩ ⟨G3, L3, rfl, w3⟩
    exact ⟨T, t, k, m, bs, q, th, rs, ra, rb, G1, L1, G3, L3, rfl, rfl, hB, w1, w3⟩
theorem pat_0 (G : Nat → Nat → Int32) (p : Nat) (b : Bool) : pat (pL G p [] b) p [] b := pat_pL (Nat.zero_le _) (fun j hj => absurd hj (Nat.not_lt_zero _))
theorem csh_0 (hC : csh G T t) (s : Nat) (b : Bool) : csh (pL G (51 + 3 * s) [] b) (fun z => if z = s then [] else T z) (fun z => if z = s then b else t z) := by
  intro z hz
  by_cases e : z = s
  · rw [e]
    show pat _ _ (if s = s then [] else T s) (if s = s then b else t s)
    rw [if_pos rfl, if_pos rfl]
    exact pat_0 G _ b
  · show pat _ _ (if z = s then [] else T z) (if z = s then b else t z)
    rw [if_neg e, if_neg e]
    exact pat_row (hC z hz) (pL_row (by omega) (by omega) (by omega)) (pL_row (by omega) (by omega) (by omega)) (pL_row (by omega) (by omega) (by omega))
theorem bth_0 (hB : bth T t k m bs q th rs ra rb) (s : Nat) (b : Bool) : bth (fun z => if z = s then [] else T z) (fun z => if z = s then b else t z) k m bs q th rs ra rb := by
  refine ⟨fun z hz ht => ?_, fun z hz ht => ?_, hB.2.2⟩
  · by_cases e : z = s
    · show pvd (if z = s then [] else T z) ∧ ∀ j, j < (if z = s then [] else T z).length → nbd (tn (if z = s then [] else T z) j)
      rw [if_pos e]
      exact ⟨fun j hj => absurd hj (Nat.not_lt_zero _), fun j hj => absurd hj (Nat.not_lt_zero _)⟩
    · have ht : (if z = s then b else t z) = true := ht
      rw [if_neg e] at ht
      show pvd (if z = s then [] else T z) ∧ ∀ j, j < (if z = s then [] else T z).length → nbd (tn (if z = s then [] else T z) j)
      rw [if_neg e]
      exact hB.1 z hz ht
  · by_cases e : z = s
    · show dsc (if z = s then [] else T z)
      rw [if_pos e]
      exact fun i j _ hj => absurd hj (Nat.not_lt_zero _)
    · have ht : (if z = s then b else t z) = true := ht
      rw [if_neg e] at ht
      show dsc (if z = s then [] else T z)
      rw [if_neg e]
      exact hB.2.1 z hz ht
theorem p_blank (hB : bth T t k m bs q th rs ra rb) (hC : cI T t k m bs q th rs G L) (hM : mJ T t k m bs q th ra rb G' L') (s : Int) (s1 : -2147483648 ≤ s) (s2 : s < 2147483648) : pr (fw cT G L) (fw mT G' L') Y10_blank Y11_blank 1 2 [.int (iI s)] (.int (iI (xBla s))) := by
  refine ⟨fun h => ∃ G1 L1, h = fw cT G1 L1 ∧ (if isSt s = true then cI (fun z => if z = s.toNat then [] else T z) (fun z => if z = s.toNat then true else t z) k m bs q th rs G1 L1 else cI T t k m bs q th rs G1 L1), fun h => ∃ G1 L1, h = fw mT G1 L1 ∧ (if isSt s = true then mJ (fun z => if z = s.toNat then [] else T z) (fun z => if z = s.toNat then true else t z) k m bs q th ra rb G1 L1 else mJ T t k m bs q th ra rb G1 L1), fv_mono (C10_blank G L s s1 s2) ?_, fv_mono (C11_blank G' L' s s1 s2) ?_, ?_⟩
  · rintro r g al ⟨rfl, e, rfl⟩
    by_cases z : isSt s = true
    · rw [if_pos z] at e
      refine ⟨rfl, rfl, _, L, e, ?_⟩
      rw [if_pos z]
      have z2 := isSt_1 z
      exact cI_s hC (csh_0 hC.1 s.toNat true) (emp_k hC.2.1 (pL_row (by omega) (by omega) (by omega)) rfl) (fun i _ _ => pL_row (by omega) (by omega) (by omega))
    · rw [if_neg z] at e
      refine ⟨rfl, rfl, G, L, e, ?_⟩
      rw [if_neg z]
      exact hC
  · rintro r g al ⟨rfl, e, rfl⟩
    by_cases z : isSt s = true
    · rw [if_pos z] at e
      refine ⟨rfl, rfl, _, L', e, ?_⟩
      rw [if_pos z]
      refine mJ_s hM (fun y hy => ?_) (fun i j w => by rw [g2_ne _ _ (by omega), g2_ne _ _ (by omega)])
      by_cases z2 : y = s.toNat
      · rw [z2]
        show _ = bI (if s.toNat = s.toNat then true else t s.toNat) ∧ ((if s.toNat = s.toNat then true else t s.toNat) = true → (if s.toNat = s.toNat then [] else T s.toNat).length ≤ 600 ∧ _ = nI (if s.toNat = s.toNat then [] else T s.toNat).length ∧ ∀ j, j < (if s.toNat = s.toNat then [] else T s.toNat).length → _)
        rw [if_pos rfl, if_pos rfl]
        exact ⟨by rw [g2_ne _ _ (by omega), g2_eq], fun _ => ⟨Nat.zero_le _, by rw [g2_eq]; rfl, fun j hj => absurd hj (Nat.not_lt_zero _)⟩⟩
      · show _ = bI (if y = s.toNat then true else t y) ∧ ((if y = s.toNat then true else t y) = true → (if y = s.toNat then [] else T y).length ≤ 600 ∧ _ = nI (if y = s.toNat then [] else T y).length ∧ ∀ j, j < (if y = s.toNat then [] else T y).length → _ = nI (tx (if y = s.toNat then [] else T y) j) ∧ _ = (tn (if y = s.toNat then [] else T y) j).toInt64)
        rw [if_neg z2, if_neg z2, g2_ne _ _ (show ¬ (3 = 4 ∧ y = s.toNat) by omega), g2_ne _ _ (show ¬ (3 = 3 ∧ y = s.toNat) by omega), g2_ne _ _ (show ¬ (4 = 4 ∧ y = s.toNat) by omega), g2_ne _ _ (show ¬ (4 = 3 ∧ y = s.toNat) by omega)]
        obtain ⟨y1, y2⟩ := hM.1 y hy
        refine ⟨y1, fun y3 => ?_⟩
        obtain ⟨y4, y5, y6⟩ := y2 y3
        refine ⟨y4, y5, fun j hj => ?_⟩
        rw [g2_ne _ _ (show ¬ (5 = 4 ∧ 600 * y + j = s.toNat) by omega), g2_ne _ _ (show ¬ (5 = 3 ∧ 600 * y + j = s.toNat) by omega)]
        exact y6 j hj
    · rw [if_neg z] at e
      refine ⟨rfl, rfl, G', L', e, ?_⟩
      rw [if_neg z]
      exact hM
  · rintro h i ⟨G1, L1, rfl, w1⟩ ⟨G3, L3, rfl, w3⟩
    by_cases z : isSt s = true
    · rw [if_pos z] at w1 w3
      exact ⟨_, _, k, m, bs, q, th, rs, ra, rb, G1, L1, G3, L3, rfl, rfl, bth_0 hB s.toNat true, w1, w3⟩
    · rw [if_neg z] at w1 w3
      exact ⟨T, t, k, m, bs, q, th, rs, ra, rb, G1, L1, G3, L3, rfl, rfl, hB, w1, w3⟩
theorem p_lose (hB : bth T t k m bs q th rs ra rb) (hC : cI T t k m bs q th rs G L) (hM : mJ T t k m bs q th ra rb G' L') (s : Int) (s1 : -2147483648 ≤ s) (s2 : s < 2147483648) : pr (fw cT G L) (fw mT G' L') Y10_lose Y11_lose 2 2 [.int (iI s)] (.int (iI (xLos T t s))) := by
  refine ⟨fun h => ∃ G1 L1, h = fw cT G1 L1 ∧ (if isSt s = true ∧ t s.toNat = true then cI (fun z => if z = s.toNat then [] else T z) (fun z => if z = s.toNat then false else t z) k m bs q th rs G1 L1 else cI T t k m bs q th rs G1 L1), fun h => ∃ G1 L1, h = fw mT G1 L1 ∧ (if isSt s = true ∧ t s.toNat = true then mJ (fun z => if z = s.toNat then [] else T z) (fun z => if z = s.toNat then false else t z) k m bs q th ra rb G1 L1 else mJ T t k m bs q th ra rb G1 L1), fv_mono (C10_lose G L T t hC.1 s s1 s2) ?_, fv_mono (C11_lose G' L' T t hM.1 s s1 s2) ?_, ?_⟩
  · rintro r g al ⟨rfl, e, rfl⟩
    by_cases z : isSt s = true ∧ t s.toNat = true
    · rw [if_pos z] at e
      refine ⟨rfl, rfl, _, L, e, ?_⟩
      rw [if_pos z]
      have z2 := isSt_1 z.1
      exact cI_s hC (csh_0 hC.1 s.toNat false) (emp_k hC.2.1 (pL_row (by omega) (by omega) (by omega)) rfl) (fun i _ _ => pL_row (by omega) (by omega) (by omega))
    · rw [if_neg z] at e
      refine ⟨rfl, rfl, G, L, e, ?_⟩
      rw [if_neg z]
      exact hC
  · rintro r g al ⟨rfl, e, rfl⟩
    by_cases z : isSt s = true ∧ t s.toNat = true
    · rw [if_pos z] at e
      refine ⟨rfl, rfl, _, L', e, ?_⟩
      rw [if_pos z]
      refine mJ_s hM (fun y hy => ?_) (fun i j w => g2_ne _ _ (by omega))
      by_cases z2 : y = s.toNat
      · rw [z2]
        show _ = bI (if s.toNat = s.toNat then false else t s.toNat) ∧ ((if s.toNat = s.toNat then false else t s.toNat) = true → (if s.toNat = s.toNat then [] else T s.toNat).length ≤ 600 ∧ _ = nI (if s.toNat = s.toNat then [] else T s.toNat).length ∧ ∀ j, j < (if s.toNat = s.toNat then [] else T s.toNat).length → _)
        rw [if_pos rfl, if_pos rfl]
        exact ⟨by rw [g2_eq], fun w => by cases w⟩
      · show _ = bI (if y = s.toNat then false else t y) ∧ ((if y = s.toNat then false else t y) = true → (if y = s.toNat then [] else T y).length ≤ 600 ∧ _ = nI (if y = s.toNat then [] else T y).length ∧ ∀ j, j < (if y = s.toNat then [] else T y).length → _ = nI (tx (if y = s.toNat then [] else T y) j) ∧ _ = (tn (if y = s.toNat then [] else T y) j).toInt64)
        rw [if_neg z2, if_neg z2, g2_ne _ _ (show ¬ (3 = 3 ∧ y = s.toNat) by omega), g2_ne _ _ (show ¬ (4 = 3 ∧ y = s.toNat) by omega)]
        obtain ⟨y1, y2⟩ := hM.1 y hy
        refine ⟨y1, fun y3 => ?_⟩
        obtain ⟨y4, y5, y6⟩ := y2 y3
        refine ⟨y4, y5, fun j hj => ?_⟩
        rw [g2_ne _ _ (show ¬ (5 = 3 ∧ 600 * y + j = s.toNat) by omega)]
        exact y6 j hj
    · rw [if_neg z] at e
      refine ⟨rfl, rfl, G', L', e, ?_⟩
      rw [if_neg z]
      exact hM
  · rintro h i ⟨G1, L1, rfl, w1⟩ ⟨G3, L3, rfl, w3⟩
    by_cases z : isSt s = true ∧ t s.toNat = true
    · rw [if_pos z] at w1 w3
      exact ⟨_, _, k, m, bs, q, th, rs, ra, rb, G1, L1, G3, L3, rfl, rfl, bth_0 hB s.toNat false, w1, w3⟩
    · rw [if_neg z] at w1 w3
      exact ⟨T, t, k, m, bs, q, th, rs, ra, rb, G1, L1, G3, L3, rfl, rfl, hB, w1, w3⟩
end PRS
