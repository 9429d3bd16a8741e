/-! ===== worlds of fixed shape: the references stay as they are made; what changes are ints (G: cell, place) and longs (L) ===== -/
/-- a cell's shape: 0 ints (tag, length), 1 longs, 2 references, 3 an object (class; of each field its reference, or none: an int) -/
abbrev fw_T : Type := Nat → Option (Nat × Nat × Nat × List (Option Nat))
def fw_fs (g : Nat → Int32) : Nat → List (Option Nat) → List Value
  | _, [] => []
  | k, some r :: rs => .ref r :: fw_fs g (k + 1) rs
  | k, none :: rs => .int (g k) :: fw_fs g (k + 1) rs
def fw_c (i : Nat) (G : Nat → Nat → Int32) (L : Nat → Nat → Int64) : Nat × Nat × Nat × List (Option Nat) → fv_C
  | (0, t, n, _) => .inl (t, n, .inl (G i))
  | (1, t, n, _) => .inl (t, n, .inr (.inl (L i)))
  | (2, t, n, rs) => .inl (t, n, .inr (.inr (.inr (.inr (fun j => rs.getD j none)))))
  | (_, c, _, rs) => .inr (c, fw_fs (G i) 0 rs)
def fw (T : fw_T) (G : Nat → Nat → Int32) (L : Nat → Nat → Int64) : fv_F := fun i => (T i).map (fw_c i G L)
def g2 {α : Type} (G : Nat → Nat → α) (a k : Nat) (x : α) : Nat → Nat → α := fun i j => if i = a ∧ j = k then x else G i j
theorem g2_eq {α : Type} (G : Nat → Nat → α) (a k : Nat) (x : α) : g2 G a k x a k = x := if_pos ⟨rfl, rfl⟩
theorem g2_ne {α : Type} (G : Nat → Nat → α) {a k i j : Nat} (x : α) (h : ¬ (i = a ∧ j = k)) : g2 G a k x i j = G i j := if_neg h
theorem g2_row {α : Type} (G : Nat → Nat → α) {a k i : Nat} (x : α) (h : i ≠ a) : g2 G a k x i = G i := funext fun j => if_neg fun q => h q.1
theorem fw_at {T : fw_T} {G : Nat → Nat → Int32} {L : Nat → Nat → Int64} {a : Nat} {c : Nat × Nat × Nat × List (Option Nat)} (h : T a = some c) : fw T G L a = some (fw_c a G L c) := by
  unfold fw
  rw [h]
  rfl
theorem fw_fsN {g : Nat → Int32} {rs : List (Option Nat)} {j : Nat} (h : rs[j]? = some none) : ∀ k, (fw_fs g k rs)[j]? = some (.int (g (k + j))) := by
  induction rs generalizing j with
  | nil => cases h
  | cons r rs ih =>
    intro k
    cases j with
    | zero =>
      cases h
      rfl
    | succ j =>
      have h2 : rs[j]? = some none := h
      cases r with
      | none =>
        show (fw_fs g (k + 1) rs)[j]? = _
        rw [ih h2 (k + 1), Nat.add_assoc, Nat.add_comm 1 j]
      | some r =>
        show (fw_fs g (k + 1) rs)[j]? = _
        rw [ih h2 (k + 1), Nat.add_assoc, Nat.add_comm 1 j]
theorem fw_fsR {g : Nat → Int32} {rs : List (Option Nat)} {j r : Nat} (h : rs[j]? = some (some r)) : ∀ k, (fw_fs g k rs)[j]? = some (.ref r) := by
  induction rs generalizing j with
  | nil => cases h
  | cons r0 rs ih =>
    intro k
    cases j with
    | zero =>
      cases h
      rfl
    | succ j =>
      have h2 : rs[j]? = some (some r) := h
      cases r0 <;> exact ih h2 (k + 1)
theorem fw_fsS {g g' : Nat → Int32} {rs : List (Option Nat)} {j : Nat} {x : Int32} (h : rs[j]? = some none) : ∀ k, (∀ i, i ≠ k + j → g' i = g i) → g' (k + j) = x → (fw_fs g k rs).set j (.int x) = fw_fs g' k rs := by
  induction rs generalizing j with
  | nil => cases h
  | cons r0 rs ih =>
    intro k h1 h2
    have same : ∀ (rs : List (Option Nat)) (k0 : Nat), k + j < k0 → fw_fs g k0 rs = fw_fs g' k0 rs := by
      intro rs
      induction rs with
      | nil => intro _ _; rfl
      | cons r rs ih2 =>
        intro k0 hk
        cases r with
        | none =>
          show Value.int (g k0) :: fw_fs g (k0 + 1) rs = Value.int (g' k0) :: fw_fs g' (k0 + 1) rs
          rw [ih2 (k0 + 1) (by omega), h1 k0 (by omega)]
        | some r =>
          show Value.ref r :: fw_fs g (k0 + 1) rs = Value.ref r :: fw_fs g' (k0 + 1) rs
          rw [ih2 (k0 + 1) (by omega)]
    cases j with
    | zero =>
      cases h
      show Value.int x :: fw_fs g (k + 1) rs = Value.int (g' k) :: fw_fs g' (k + 1) rs
      rw [same rs (k + 1) (by omega), show g' k = x from h2]
    | succ j =>
      have h3 : rs[j]? = some none := h
      have e : k + (j + 1) = (k + 1) + j := by omega
      rw [e] at h1 h2
      cases r0 with
      | none =>
        show Value.int (g k) :: (fw_fs g (k + 1) rs).set j (.int x) = Value.int (g' k) :: fw_fs g' (k + 1) rs
        rw [ih h3 (k + 1) h1 h2, h1 k (by omega)]
      | some r =>
        show Value.ref r :: (fw_fs g (k + 1) rs).set j (.int x) = Value.ref r :: fw_fs g' (k + 1) rs
        rw [ih h3 (k + 1) h1 h2]
theorem fw_fsL {g : Nat → Int32} {rs : List (Option Nat)} : ∀ k, (fw_fs g k rs).length = rs.length := by
  induction rs with
  | nil => intro _; rfl
  | cons r rs ih => intro k; cases r <;> exact congrArg (· + 1) (ih (k + 1))
theorem fw_other {T : fw_T} {G G' : Nat → Nat → Int32} {L L' : Nat → Nat → Int64} {a : Nat} {c : Nat × Nat × Nat × List (Option Nat)} {cell : fv_C} (hT : T a = some c) (h : fw_c a G' L' c = cell) (hG : ∀ i, i ≠ a → G' i = G i) (hL : ∀ i, i ≠ a → L' i = L i) : fv_set (fw T G L) a cell = fw T G' L' := by
  funext i
  by_cases e : i = a
  · subst e
    rw [fv_set_self, fw_at hT, h]
  · rw [fv_set_ne _ _ e]
    unfold fw
    cases T i with
    | none => rfl
    | some c =>
      show some (fw_c i G L c) = some (fw_c i G' L' c)
      obtain ⟨q, t, n, rs⟩ := c
      match q with
      | 0 => simp only [fw_c, hG i e]
      | 1 => simp only [fw_c, hL i e]
      | 2 => rfl
      | q + 3 => simp only [fw_c, hG i e]
theorem fw_setI {T : fw_T} {G : Nat → Nat → Int32} {L : Nat → Nat → Int64} {a t n j : Nat} {rs : List (Option Nat)} {x : Int32} (hT : T a = some (0, t, n, rs)) : fv_set (fw T G L) a (.inl (t, n, .inl (upd (G a) j x))) = fw T (g2 G a j x) L := by
  refine fw_other hT ?_ (fun i e => g2_row G x e) (fun _ _ => rfl)
  show (Sum.inl (t, n, .inl (g2 G a j x a)) : fv_C) = _
  congr 4
  funext k
  by_cases e : k = j
  · subst e; simp [g2, upd]
  · simp [g2, upd, e]
theorem fw_setL {T : fw_T} {G : Nat → Nat → Int32} {L : Nat → Nat → Int64} {a t n j : Nat} {rs : List (Option Nat)} {x : Int64} (hT : T a = some (1, t, n, rs)) : fv_set (fw T G L) a (.inl (t, n, .inr (.inl (vp_updL (L a) j x)))) = fw T G (g2 L a j x) := by
  refine fw_other hT ?_ (fun _ _ => rfl) (fun i e => g2_row L x e)
  show (Sum.inl (t, n, .inr (.inl (g2 L a j x a))) : fv_C) = _
  congr 5
  funext k
  by_cases e : k = j
  · subst e; simp [g2, vp_updL]
  · simp [g2, vp_updL, e]
theorem fw_setF {T : fw_T} {G : Nat → Nat → Int32} {L : Nat → Nat → Int64} {a c n j : Nat} {rs : List (Option Nat)} {x : Int32} (hT : T a = some (3, c, n, rs)) (hj : rs[j]? = some none) : fv_set (fw T G L) a (.inr (c, (fw_fs (G a) 0 rs).set j (.int x))) = fw T (g2 G a j x) L := by
  refine fw_other hT ?_ (fun i e => g2_row G x e) (fun _ _ => rfl)
  show (Sum.inr (c, fw_fs (g2 G a j x a) 0 rs) : fv_C) = _
  rw [fw_fsS hj 0 (g' := g2 G a j x a) (x := x) (fun i hi => g2_ne G x (by omega)) (by rw [Nat.zero_add]; exact g2_eq G a j x)]
section FW
variable {y : fv_Y} {d mc ms : Nat} {Q : Option Value → fv_F → Option Nat → Prop} {pc : Nat} {lv : fv_L} {st : List Value} {T : fw_T} {G : Nat → Nat → Int32} {L : Nat → Nat → Int64} {al : Option Nat} {k t : Nat}
theorem fw_geti {a idx ci j n : Nat} {fin : Bool} {ty : FieldType} {rs : List (Option Nat)} (hd : decode y.2.1 pc = .ok (.getfield idx, 3)) (hp : fv_fd y.1.cls idx ci j fin ty) (hT : T a = some (3, ci, n, rs)) (hj : rs[j]? = some none) (kk : fv_At y d mc ms Q (pc + 3) lv (.int (G a j) :: st) (fw T G L) al k t) : fv_At y d mc ms Q pc lv (.ref a :: st) (fw T G L) al k t :=
  fx_getf hd hp (fw_at hT) (v := .int (G a j)) ((fw_fsN hj 0).trans (by rw [Nat.zero_add])) kk
theorem fw_getr {a idx ci j n r : Nat} {fin : Bool} {ty : FieldType} {rs : List (Option Nat)} (hd : decode y.2.1 pc = .ok (.getfield idx, 3)) (hp : fv_fd y.1.cls idx ci j fin ty) (hT : T a = some (3, ci, n, rs)) (hj : rs[j]? = some (some r)) (kk : fv_At y d mc ms Q (pc + 3) lv (.ref r :: st) (fw T G L) al k t) : fv_At y d mc ms Q pc lv (.ref a :: st) (fw T G L) al k t :=
  fx_getf hd hp (fw_at hT) (fw_fsR hj 0) kk
theorem fw_puti {a idx ci j n : Nat} {rs : List (Option Nat)} {x : Int32} (hd : decode y.2.1 pc = .ok (.putfield idx, 3)) (hp : fv_fd y.1.cls idx ci j false .int) (hT : T a = some (3, ci, n, rs)) (hj : rs[j]? = some none) (kk : fv_At y d mc ms Q (pc + 3) lv st (fw T (g2 G a j x) L) al k t) : fv_At y d mc ms Q pc lv (.int x :: .ref a :: st) (fw T G L) al k t :=
  fx_putf hd hp (fw_at hT) (fun _ => rfl) (fun _ => rfl) (by rw [fw_fsL]; exact (List.getElem?_eq_some_iff.mp hj).1) (by rw [fw_setF hT hj]; exact kk)
theorem fw_putz {a idx ci j n : Nat} {rs : List (Option Nat)} {x : Int32} (hd : decode y.2.1 pc = .ok (.putfield idx, 3)) (hp : fv_fd y.1.cls idx ci j false .boolean) (hx : x = 0 ∨ x = 1) (hT : T a = some (3, ci, n, rs)) (hj : rs[j]? = some none) (kk : fv_At y d mc ms Q (pc + 3) lv st (fw T (g2 G a j x) L) al k t) : fv_At y d mc ms Q pc lv (.int x :: .ref a :: st) (fw T G L) al k t :=
  fx_putf hd hp (fw_at hT) (fun _ => by rcases hx with h | h <;> subst h <;> rfl) (fun _ => by rcases hx with h | h <;> subst h <;> rfl) (by rw [fw_fsL]; exact (List.getElem?_eq_some_iff.mp hj).1) (by rw [fw_setF hT hj]; exact kk)
theorem fw_iald {a n : Nat} {rs : List (Option Nat)} {i : Int32} (j : Nat) (hd : decode y.2.1 pc = .ok (.iaload, 1)) (hT : T a = some (0, 0, n, rs)) (hi : i = nI j) (hj : j < n) (hn : n < 2 ^ 31) (kk : fv_At y d mc ms Q (pc + 1) lv (.int (G a j) :: st) (fw T G L) al k t) : fv_At y d mc ms Q pc lv (.int i :: .ref a :: st) (fw T G L) al k t :=
  fx_iald j hd (fw_at hT) hi hj hn kk
theorem fw_zald {a n : Nat} {rs : List (Option Nat)} {i : Int32} (j : Nat) (hd : decode y.2.1 pc = .ok (.baload, 1)) (hT : T a = some (0, 2, n, rs)) (hi : i = nI j) (hj : j < n) (hn : n < 2 ^ 31) (kk : fv_At y d mc ms Q (pc + 1) lv (.int (G a j) :: st) (fw T G L) al k t) : fv_At y d mc ms Q pc lv (.int i :: .ref a :: st) (fw T G L) al k t :=
  fx_zald j hd (fw_at hT) hi hj hn kk
theorem fw_lald {a n : Nat} {rs : List (Option Nat)} {i : Int32} (j : Nat) (hd : decode y.2.1 pc = .ok (.laload, 1)) (hT : T a = some (1, 1, n, rs)) (hi : i = nI j) (hj : j < n) (hn : n < 2 ^ 31) (kk : fv_At y d mc ms Q (pc + 1) lv (.long (L a j) :: st) (fw T G L) al k t) : fv_At y d mc ms Q pc lv (.int i :: .ref a :: st) (fw T G L) al k t :=
  fx_lald j hd (fw_at hT) hi hj hn kk
theorem fw_aald {a n ta r : Nat} {rs : List (Option Nat)} {i : Int32} (j : Nat) (hd : decode y.2.1 pc = .ok (.aaload, 1)) (hT : T a = some (2, ta, n, rs)) (hta : ta = 3 ∨ ta = 4 ∨ ta = 5) (hi : i = nI j) (hj : j < n) (hn : n < 2 ^ 31) (hr : rs.getD j none = some r) (kk : fv_At y d mc ms Q (pc + 1) lv (.ref r :: st) (fw T G L) al k t) : fv_At y d mc ms Q pc lv (.int i :: .ref a :: st) (fw T G L) al k t :=
  fx_aald j hd (fw_at hT) hta hi hj hn (by rw [hr]; exact kk)
theorem fw_iast {a n : Nat} {rs : List (Option Nat)} {i x : Int32} (j : Nat) (hd : decode y.2.1 pc = .ok (.iastore, 1)) (hT : T a = some (0, 0, n, rs)) (hi : i = nI j) (hj : j < n) (hn : n < 2 ^ 31) (kk : fv_At y d mc ms Q (pc + 1) lv st (fw T (g2 G a j x) L) al k t) : fv_At y d mc ms Q pc lv (.int x :: .int i :: .ref a :: st) (fw T G L) al k t :=
  fx_iast j hd (fw_at hT) hi hj hn (by rw [fw_setI hT]; exact kk)
theorem fw_zast {a n : Nat} {rs : List (Option Nat)} {i x : Int32} (j : Nat) (hd : decode y.2.1 pc = .ok (.bastore, 1)) (hx : x = 0 ∨ x = 1) (hT : T a = some (0, 2, n, rs)) (hi : i = nI j) (hj : j < n) (hn : n < 2 ^ 31) (kk : fv_At y d mc ms Q (pc + 1) lv st (fw T (g2 G a j x) L) al k t) : fv_At y d mc ms Q pc lv (.int x :: .int i :: .ref a :: st) (fw T G L) al k t := by
  have e : vp_nar .boolean x = x := by rcases hx with h | h <;> subst h <;> rfl
  exact fx_zast j hd (fw_at hT) hi hj hn (by rw [e, fw_setI hT]; exact kk)
theorem fw_last {a n : Nat} {rs : List (Option Nat)} {i : Int32} {x : Int64} (j : Nat) (hd : decode y.2.1 pc = .ok (.lastore, 1)) (hT : T a = some (1, 1, n, rs)) (hi : i = nI j) (hj : j < n) (hn : n < 2 ^ 31) (kk : fv_At y d mc ms Q (pc + 1) lv st (fw T G (g2 L a j x)) al k t) : fv_At y d mc ms Q pc lv (.long x :: .int i :: .ref a :: st) (fw T G L) al k t :=
  fx_last j hd (fw_at hT) hi hj hn (by rw [fw_setL hT]; exact kk)
theorem fw_alen {a q ta n : Nat} {rs : List (Option Nat)} (hd : decode y.2.1 pc = .ok (.arraylength, 1)) (hT : T a = some (q, ta, n, rs)) (hq : q < 3) (hta : ta < 6) (kk : fv_At y d mc ms Q (pc + 1) lv (.int (nI n) :: st) (fw T G L) al k t) : fv_At y d mc ms Q pc lv (.ref a :: st) (fw T G L) al k t := by
  match q, hq with
  | 0, _ => exact fx_alen hd (fw_at hT) hta rfl kk
  | 1, _ => exact fx_alen hd (fw_at hT) hta rfl kk
  | 2, _ => exact fx_alen hd (fw_at hT) hta rfl kk
end FW
/-! ===== small numbers ===== -/
def iI (z : Int) : Int32 := Int32.ofInt z
theorem iI_n (n : Nat) : iI (n : Int) = nI n := rfl
def bI (b : Bool) : Int32 := if b then 1 else 0
theorem bI_01 (b : Bool) : bI b = 0 ∨ bI b = 1 := by cases b <;> simp [bI]
theorem iI_of (x : Int32) : iI x.toInt = x := Int32.ofInt_toInt x
theorem iI_rng (x : Int32) : -2147483648 ≤ x.toInt ∧ x.toInt < 2147483648 := by
  have h1 := Int32.le_toInt x
  have h2 := Int32.toInt_lt x
  omega
theorem iI_t {z : Int} (h1 : -2147483648 ≤ z) (h2 : z < 2147483648) : (iI z).toInt = z := by
  unfold iI
  rw [Int32.toInt_ofInt, show Int32.size = 4294967296 from rfl]
  exact Int.bmod_eq_of_le (by omega) (by omega)
theorem iI_add (a b : Int) : iI a + iI b = iI (a + b) := (Int32.ofInt_add a b).symm
theorem iI_mul (a b : Int) : iI a * iI b = iI (a * b) := (Int32.ofInt_mul a b).symm
theorem iI_sub (a b : Int) : iI a - iI b = iI (a - b) := (Int32.ofInt_sub a b).symm
theorem iI_lt {a b : Int} (a1 : -2147483648 ≤ a) (a2 : a < 2147483648) (b1 : -2147483648 ≤ b) (b2 : b < 2147483648) : iI a < iI b ↔ a < b := by rw [Int32.lt_iff_toInt_lt, iI_t a1 a2, iI_t b1 b2]
theorem iI_le {a b : Int} (a1 : -2147483648 ≤ a) (a2 : a < 2147483648) (b1 : -2147483648 ≤ b) (b2 : b < 2147483648) : iI a ≤ iI b ↔ a ≤ b := by rw [Int32.le_iff_toInt_le, iI_t a1 a2, iI_t b1 b2]
theorem iI_eq {a b : Int} (a1 : -2147483648 ≤ a) (a2 : a < 2147483648) (b1 : -2147483648 ≤ b) (b2 : b < 2147483648) : iI a = iI b ↔ a = b := by rw [← Int32.toInt_inj, iI_t a1 a2, iI_t b1 b2]
