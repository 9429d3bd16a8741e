theorem na_mul (x y : Int64) : na (x * y) ≤ na x * na y := by
  unfold na
  have h1 := Int64.le_toInt (x * y)
  have h2 := Int64.toInt_lt (x * y)
  have e := Int64.toInt_mul x y
  rw [← Int.natAbs_mul]
  generalize x.toInt * y.toInt = p at e ⊢
  by_cases q : -9223372036854775808 ≤ p ∧ p < 9223372036854775808
  · rw [Int.bmod_eq_of_le (by omega) (by omega)] at e
    omega
  · omega
theorem mI_ad (A B : Nat → Int64) (e : Nat) : ∀ (k f : Nat) (R : Nat → Int64) (d : Nat) (y : Int64), mI A B e k f (adS R d y) = adS (mI A B e k f R) d y
  | 0, _, _, _, _ => rfl
  | k + 1, f, R, d, y => by
    rw [mI_s, mI_s]
    by_cases q : B (nex f) = 0
    · rw [if_pos q, if_pos q]
      exact mI_ad A B e k (f + 1) R d y
    · rw [if_neg q, if_neg q, adS_comm]
      exact mI_ad A B e k (f + 1) _ d y
/-- one place of the inner row -/
def sI (A B : Nat → Int64) (e f : Nat) (R : Nat → Int64) : Nat → Int64 := if B (nex f) = 0 then R else adS R (nex e + nex f) (A (nex e) * B (nex f))
theorem mI_t (A B : Nat → Int64) (e k f : Nat) (R : Nat → Int64) : mI A B e (k + 1) f R = mI A B e k (f + 1) (sI A B e f R) := rfl
theorem sI_ad (A B : Nat → Int64) (e f : Nat) (R : Nat → Int64) (d : Nat) (y : Int64) : sI A B e f (adS R d y) = adS (sI A B e f R) d y := by
  unfold sI
  by_cases q : B (nex f) = 0
  · rw [if_pos q, if_pos q]
  · rw [if_neg q, if_neg q, adS_comm]
theorem sI_sI (A B : Nat → Int64) (e f e2 f2 : Nat) (R : Nat → Int64) : sI A B e f (sI A B e2 f2 R) = sI A B e2 f2 (sI A B e f R) := by
  by_cases q : B (nex f2) = 0
  · have h : ∀ R, sI A B e2 f2 R = R := fun R => if_pos q
    rw [h, h]
  · have h : ∀ R, sI A B e2 f2 R = adS R (nex e2 + nex f2) (A (nex e2) * B (nex f2)) := fun R => if_neg q
    rw [h, h, sI_ad]
theorem mI_sI (A B : Nat → Int64) (e e2 f2 : Nat) (k f : Nat) (R : Nat → Int64) : mI A B e k f (sI A B e2 f2 R) = sI A B e2 f2 (mI A B e k f R) := by
  by_cases q : B (nex f2) = 0
  · have h : ∀ R, sI A B e2 f2 R = R := fun R => if_pos q
    rw [h, h]
  · have h : ∀ R, sI A B e2 f2 R = adS R (nex e2 + nex f2) (A (nex e2) * B (nex f2)) := fun R => if_neg q
    rw [h, h, mI_ad]
theorem mI_rev (A B : Nat → Int64) (e : Nat) : ∀ (k f : Nat) (R : Nat → Int64), mI A B e (k + 1) f R = mI A B e k f (sI A B e (f + k) R)
  | 0, _, _ => rfl
  | k + 1, f, R => by
    rw [mI_t, mI_rev A B e k (f + 1), mI_t, show f + 1 + k = f + (k + 1) by omega, sI_sI]
theorem mI_mI (A B : Nat → Int64) (e k f e2 : Nat) : ∀ (k2 f2 : Nat) (R : Nat → Int64), mI A B e k f (mI A B e2 k2 f2 R) = mI A B e2 k2 f2 (mI A B e k f R)
  | 0, _, _ => rfl
  | k2 + 1, f2, R => by
    rw [mI_t, mI_t, mI_mI A B e k f e2 k2 (f2 + 1), mI_sI]
/-- one place of the outer row; K places inside -/
def sO (A B : Nat → Int64) (K e : Nat) (R : Nat → Int64) : Nat → Int64 := if A (nex e) = 0 then R else mI A B e K 0 R
theorem sO_sO (A B : Nat → Int64) (K e e2 : Nat) (R : Nat → Int64) : sO A B K e (sO A B K e2 R) = sO A B K e2 (sO A B K e R) := by
  unfold sO
  by_cases q : A (nex e) = 0
  · rw [if_pos q, if_pos q]
  · rw [if_neg q, if_neg q]
    by_cases q2 : A (nex e2) = 0
    · rw [if_pos q2, if_pos q2]
    · rw [if_neg q2, if_neg q2, mI_mI]
def mQ (A B : Nat → Int64) (K : Nat) : Nat → Nat → (Nat → Int64) → Nat → Int64
  | 0, _, R => R
  | k + 1, e, R => mQ A B K k (e + 1) (sO A B K e R)
theorem mQ_t (A B : Nat → Int64) (K k e : Nat) (R : Nat → Int64) : mQ A B K (k + 1) e R = mQ A B K k (e + 1) (sO A B K e R) := rfl
theorem mQ_O (A B : Nat → Int64) (K : Nat) (hK : K = 59049) : ∀ (k e : Nat) (R : Nat → Int64), mO A B k e R = mQ A B K k e R
  | 0, _, _ => rfl
  | k + 1, e, R => by
    rw [mO_s, mQ_t, mQ_O A B K hK k (e + 1)]
    unfold sO
    rw [hK]
theorem mQ_rev (A B : Nat → Int64) (K : Nat) : ∀ (k e : Nat) (R : Nat → Int64), mQ A B K (k + 1) e R = mQ A B K k e (sO A B K (e + k) R)
  | 0, _, _ => rfl
  | k + 1, e, R => by
    rw [mQ_t, mQ_rev A B K k (e + 1), mQ_t, show e + 1 + k = e + (k + 1) by omega, sO_sO]
/-- the row of one term, told downwards -/
theorem pm2_9 {A B : Nat → Int64} (e : Nat) (hb : anB (dw9 B 59049) = false) : ∀ (E : Nat) (R : Nat → Int64), E ≤ 59049 → pm2 (nex e) (A (nex e)) ((dw9 B E).map (fun q => (q.1, q.2.toInt32))) R = mI A B e E 0 R
  | 0, _, _ => rfl
  | E + 1, R, hE => by
    rw [dw9_s, mI_rev, Nat.zero_add]
    unfold sI
    by_cases q : B (nex E) = 0
    · rw [if_neg (fun w => w q), if_pos q]
      exact pm2_9 e hb E R (by omega)
    · have hx := (nin_nex (show E < 59049 by omega)).1
      rw [if_pos q, if_neg q, List.map_cons]
      show pm2 (nex e) (A (nex e)) ((dw9 B E).map (fun q => (q.1, q.2.toInt32))) (adS R (nex e + nex E) (A (nex e) * (B (nex E)).toInt32.toInt64)) = _
      rw [(toI (byd_9 hb hx)).1]
      exact pm2_9 e hb E _ (by omega)
theorem pml_9 {A B : Nat → Int64} (K : Nat) (hK : K = 59049) (ha : anB (dw9 A 59049) = false) (hb : anB (dw9 B 59049) = false) (us : tms) (hu : us = (dw9 B K).map (fun q => (q.1, q.2.toInt32))) : ∀ (E : Nat) (R : Nat → Int64), E ≤ 59049 → pml us ((dw9 A E).map (fun q => (q.1, q.2.toInt32))) R = mQ A B K E 0 R
  | 0, _, _ => rfl
  | E + 1, R, hE => by
    rw [dw9_s, mQ_rev, Nat.zero_add]
    unfold sO
    by_cases q : A (nex E) = 0
    · rw [if_neg (fun w => w q), if_pos q]
      exact pml_9 K hK ha hb us hu E R (by omega)
    · have hx := (nin_nex (show E < 59049 by omega)).1
      rw [if_pos q, if_neg q, List.map_cons]
      show pml us ((dw9 A E).map (fun q => (q.1, q.2.toInt32))) (pm2 (nex E) (A (nex E)).toInt32.toInt64 us R) = _
      rw [(toI (byd_9 ha hx)).1, hu, pm2_9 E hb K R (by omega), ← hu]
      exact pml_9 K hK ha hb us hu E _ (by omega)
/-- the class's product is the model's -/
theorem pml_O {A B : Nat → Int64} (hA : sok A) (hB : sok B) (ha : 0 ≤ stl A) (hb : 0 ≤ stl B) : pml (trm B) (trm A) zS = mO A B 59049 0 zS := by
  obtain ⟨K, hK⟩ : ∃ K : Nat, K = 59049 := ⟨_, rfl⟩
  rw [mQ_O A B K hK, trm_9 hA]
  exact pml_9 K hK (stl_0 hA ha).1 (stl_0 hB hb).1 (trm B) (by rw [hK]; exact trm_9 hB) 59049 zS (Nat.le_refl _)
theorem nrF_mI {A B : Nat → Int64} (hB : sup stc B) {e : Nat} (he : stc (nex e)) : ∀ (k f : Nat) (R : Nat → Int64), nrF (fun _ => 1) (mI A B e k f R) 59049 0 ≤ nrF (fun _ => 1) R 59049 0 + na (A (nex e)) * nrF (fun _ => 1) B k f
  | 0, _, _ => Nat.le_add_right _ _
  | k + 1, f, R => by
    rw [mI_t, nrF_s (fun _ => 1) B k f]
    have ih := nrF_mI (A := A) hB he k (f + 1) (sI A B e f R)
    have h2 : nrF (fun _ => 1) (sI A B e f R) 59049 0 ≤ nrF (fun _ => 1) R 59049 0 + na (A (nex e)) * na (B (nex f)) := by
      unfold sI
      by_cases q : B (nex f) = 0
      · rw [if_pos q]; exact Nat.le_add_right _ _
      · rw [if_neg q]
        have h3 := nrF_ad (fun _ => 1) R (stc_add he (hB _ q)) (A (nex e) * B (nex f)) 59049 0 (Nat.le_refl _)
        have h4 := na_mul (A (nex e)) (B (nex f))
        generalize na (A (nex e)) * na (B (nex f)) = z at h4 ⊢
        omega
    rw [Nat.one_mul, Nat.mul_add]
    generalize na (A (nex e)) * na (B (nex f)) = z at h2 ⊢
    generalize na (A (nex e)) * nrF (fun _ => 1) B k (f + 1) = z2 at ih ⊢
    omega
theorem nrF_mQ {A B : Nat → Int64} (hA : sup stc A) (hB : sup stc B) (K : Nat) : ∀ (k e : Nat) (R : Nat → Int64), nrF (fun _ => 1) (mQ A B K k e R) 59049 0 ≤ nrF (fun _ => 1) R 59049 0 + nrF (fun _ => 1) A k e * nrF (fun _ => 1) B K 0
  | 0, _, _ => Nat.le_add_right _ _
  | k + 1, e, R => by
    rw [mQ_t, nrF_s (fun _ => 1) A k e]
    have ih := nrF_mQ hA hB K k (e + 1) (sO A B K e R)
    have h2 : nrF (fun _ => 1) (sO A B K e R) 59049 0 ≤ nrF (fun _ => 1) R 59049 0 + na (A (nex e)) * nrF (fun _ => 1) B K 0 := by
      unfold sO
      by_cases q : A (nex e) = 0
      · rw [if_pos q]; exact Nat.le_add_right _ _
      · rw [if_neg q]
        exact nrF_mI hB (hA _ q) K 0 R
    rw [Nat.one_mul, Nat.add_mul]
    generalize na (A (nex e)) * nrF (fun _ => 1) B K 0 = z at h2 ⊢
    generalize nrF (fun _ => 1) A k (e + 1) * nrF (fun _ => 1) B K 0 = z2 at ih ⊢
    omega
theorem nrF_mO {A B : Nat → Int64} (hA : sup stc A) (hB : sup stc B) : nrF (fun _ => 1) (mO A B 59049 0 zS) 59049 0 ≤ nrF (fun _ => 1) A 59049 0 * nrF (fun _ => 1) B 59049 0 := by
  obtain ⟨K, hK⟩ : ∃ K : Nat, K = 59049 := ⟨_, rfl⟩
  have h := nrF_mQ hA hB K 59049 0 zS
  rw [nrF_z, Nat.zero_add, ← mQ_O A B K hK, hK] at h
  exact h
theorem sup_mI {P1 P2 P3 : Nat → Prop} (hP : ∀ c d, P1 c → P2 d → P3 (c + d)) {A B : Nat → Int64} (hB : sup P2 B) {e : Nat} (he : P1 (nex e)) : ∀ (k f : Nat) (R : Nat → Int64), sup P3 R → sup P3 (mI A B e k f R)
  | 0, _, _, h => h
  | k + 1, f, R, h => by
    rw [mI_t]
    refine sup_mI hP hB he k (f + 1) _ ?_
    unfold sI
    by_cases q : B (nex f) = 0
    · rw [if_pos q]; exact h
    · rw [if_neg q]; exact sup_ad h (hP _ _ he (hB _ q)) _
theorem sup_mQ {P1 P2 P3 : Nat → Prop} (hP : ∀ c d, P1 c → P2 d → P3 (c + d)) {A B : Nat → Int64} (hA : sup P1 A) (hB : sup P2 B) (K : Nat) : ∀ (k e : Nat) (R : Nat → Int64), sup P3 R → sup P3 (mQ A B K k e R)
  | 0, _, _, h => h
  | k + 1, e, R, h => by
    rw [mQ_t]
    refine sup_mQ hP hA hB K k (e + 1) _ ?_
    unfold sO
    by_cases q : A (nex e) = 0
    · rw [if_pos q]; exact h
    · rw [if_neg q]; exact sup_mI hP hB (hA _ q) K 0 R h
theorem sup_mO {P1 P2 P3 : Nat → Prop} (hP : ∀ c d, P1 c → P2 d → P3 (c + d)) {A B : Nat → Int64} (hA : sup P1 A) (hB : sup P2 B) : sup P3 (mO A B 59049 0 zS) := by
  obtain ⟨K, hK⟩ : ∃ K : Nat, K = 59049 := ⟨_, rfl⟩
  rw [mQ_O A B K hK]
  exact sup_mQ hP hA hB K 59049 0 zS (sup_z _)
/-- no letter has too much together -/
theorem tpl_4 (l : Nat) : ∀ (ts : tms) (m : Nat), m ≤ 4 → (∀ q, q ∈ ts → fat q.1 (5 - l) ≤ 4) → tpl l ts m ≤ 4
  | [], _, h, _ => h
  | q :: r, m, h, h2 => tpl_4 l r _ (by have := h2 q List.mem_cons_self; omega) (fun z hz => h2 z (List.mem_cons_of_mem _ hz))
theorem thl_4 {ts us : tms} (h1 : ∀ l, tpl l ts 0 ≤ 4) (h2 : ∀ l, tpl l us 0 ≤ 4) : ∀ k l, thl ts us k l = false
  | 0, _ => rfl
  | k + 1, l => by
    have a := h1 l
    have b := h2 l
    unfold thl
    rw [if_neg (by omega)]
    exact thl_4 h1 h2 k (l + 1)
theorem stc_f {c : Nat} (h : stc c) (k : Nat) : fat c k ≤ 4 := by
  obtain ⟨a4, a3, a2, a1, b4, b3, b2, b1, hc⟩ := h
  have w := dig_fat (a4 := a4) (a3 := a3) (a2 := a2) (a1 := a1) (a0 := 0) (by omega) (by omega) (by omega) (by omega) (by omega)
  rw [← hc] at w
  by_cases q : k < 5
  · have hh : k = 0 ∨ k = 1 ∨ k = 2 ∨ k = 3 ∨ k = 4 := by omega
    rcases hh with rfl | rfl | rfl | rfl | rfl
    · rw [w.1]; omega
    · rw [w.2.1]; omega
    · rw [w.2.2.1]; omega
    · rw [w.2.2.2.1]; omega
    · rw [w.2.2.2.2]; omega
  · unfold fat
    have h1 : c < 100000 := by omega
    have h2 : 10 ^ 5 ≤ 10 ^ k := Nat.pow_le_pow_right (by decide) (by omega)
    rw [Nat.div_eq_of_lt (by omega)]
    decide
theorem trm_m {S : Nat → Int64} (hS : sok S) {q : Nat × Int32} (h : q ∈ trm S) : S q.1 ≠ 0 := by
  rw [trm_9 hS] at h
  obtain ⟨z, hz, e⟩ := List.mem_map.mp h
  have w : ∀ E, z ∈ dw9 S E → S z.1 ≠ 0 := by
    intro E
    induction E with
    | zero => intro h; exact absurd h List.not_mem_nil
    | succ E ih =>
      intro h
      rw [dw9_s] at h
      split at h
      · rename_i c
        rcases List.mem_cons.mp h with rfl | h
        · exact c
        · exact ih h
      · exact ih h
  rw [← e]
  exact w _ hz
theorem thi_f {A B : Nat → Int64} (hA : sup stc A) (hB : sup stc B) : thi (trm A) (trm B) = false :=
  thl_4 (fun l => tpl_4 l _ 0 (by decide) (fun q hq => stc_f (hA _ (trm_m (fun c _ h => stc_o (hA c h)) hq)) _)) (fun l => tpl_4 l _ 0 (by decide) (fun q hq => stc_f (hB _ (trm_m (fun c _ h => stc_o (hB c h)) hq)) _)) 5 1
