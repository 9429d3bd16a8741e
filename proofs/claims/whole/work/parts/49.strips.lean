/-- all strips, in their order -/
def SL (h : Nat → Nat) (m : Nat) : Nat → Nat → Nat → Nat → List Nat
  | 0, _, rest, s => if rest = 0 then [s] else []
  | j + 1, r, rest, s => (List.range' 0 (min (rmo h m r) rest + 1)).flatMap (fun e => SL h m j (r + 1) (rest - e) (s * 10 + h r + e))
theorem r1_s (s n : Nat) : List.range' s (n + 1) = s :: List.range' (s + 1) n := rfl
theorem stpS_l (g : Nat → Nat) (p : Nat) (F : Nat → List Nat) (hF : ∀ x, (F x).length = g (p - x)) : ∀ i e c, stpS g p i e c = c + ((List.range' e i).flatMap F).length
  | 0, _, _ => rfl
  | i + 1, e, c => by
    have h : stpS g p (i + 1) e c = stpS g p i (e + 1) (c + g (p - e)) := rfl
    rw [h, stpS_l g p F hF i, r1_s, List.flatMap_cons, List.length_append, hF]
    omega
theorem SL_len (h : Nat → Nat) (m : Nat) : ∀ j r rest s, (SL h m j r rest s).length = stp h m j r rest
  | 0, _, rest, s => by
    show (if rest = 0 then [s] else []).length = if rest = 0 then 1 else 0
    split <;> rfl
  | j + 1, r, rest, s => by
    have q := stpS_l (stp h m j (r + 1)) rest (fun e => SL h m j (r + 1) (rest - e) (s * 10 + h r + e)) (fun e => SL_len h m j (r + 1) (rest - e) _) (min (rmo h m r) rest + 1) 0 0
    rw [Nat.zero_add] at q
    exact q.symm
theorem gdA (l r : List Nat) (a : Nat) : (l ++ r).getD a 0 = if a < l.length then l.getD a 0 else r.getD (a - l.length) 0 := by
  by_cases q : a < l.length
  · rw [if_pos q, List.getD_eq_getElem?_getD, List.getD_eq_getElem?_getD, List.getElem?_append_left q]
  · rw [if_neg q, List.getD_eq_getElem?_getD, List.getD_eq_getElem?_getD, List.getElem?_append_right (by omega)]
theorem stI_l (g : Nat → Nat) (rest : Nat) (F : Nat → List Nat) (hF : ∀ x, (F x).length = g (rest - x)) : ∀ n e a, a < ((List.range' e (n + 1)).flatMap F).length → ((List.range' e (n + 1)).flatMap F).getD a 0 = (F (stI g rest n e a).1).getD (stI g rest n e a).2 0 ∧ (stI g rest n e a).2 < (F (stI g rest n e a).1).length
  | 0, e, a, h => by
    have q : (List.range' e (0 + 1)).flatMap F = F e := by
      rw [r1_s, List.flatMap_cons]
      exact List.append_nil _
    rw [q] at h ⊢
    exact ⟨rfl, h⟩
  | n + 1, e, a, h => by
    rw [r1_s, List.flatMap_cons] at h ⊢
    rw [List.length_append] at h
    rw [gdA]
    have hs : stI g rest (n + 1) e a = if g (rest - e) ≤ a then stI g rest n (e + 1) (a - g (rest - e)) else (e, a) := rfl
    rw [hs, ← hF]
    by_cases q : a < (F e).length
    · rw [if_pos q, if_neg (by omega)]
      exact ⟨rfl, q⟩
    · rw [if_neg q, if_pos (by omega)]
      exact stI_l g rest F hF n (e + 1) (a - (F e).length) (by omega)
theorem stO_l (h : Nat → Nat) (m : Nat) : ∀ j r a rest s, a < stp h m j r rest → stO h m j r a rest s = (SL h m j r rest s).getD a 0
  | 0, _, a, rest, s, q => by
    have e : stp h m 0 0 rest = if rest = 0 then 1 else 0 := rfl
    show s = (if rest = 0 then [s] else []).getD a 0
    have q2 : a < (if rest = 0 then 1 else 0) := q
    by_cases z : rest = 0
    · rw [if_pos z] at q2 ⊢
      obtain rfl : a = 0 := by omega
      rfl
    · rw [if_neg z] at q2
      omega
  | j + 1, r, a, rest, s, q => by
    have hl := SL_len h m (j + 1) r rest s
    have w := stI_l (stp h m j (r + 1)) rest (fun e => SL h m j (r + 1) (rest - e) (s * 10 + h r + e)) (fun e => SL_len h m j (r + 1) (rest - e) _) (min (rmo h m r) rest) 0 a (by
      have e : (SL h m (j + 1) r rest s).length = ((List.range' 0 (min (rmo h m r) rest + 1)).flatMap (fun e => SL h m j (r + 1) (rest - e) (s * 10 + h r + e))).length := rfl
      omega)
    have e1 : (SL h m (j + 1) r rest s).getD a 0 = ((List.range' 0 (min (rmo h m r) rest + 1)).flatMap (fun e => SL h m j (r + 1) (rest - e) (s * 10 + h r + e))).getD a 0 := rfl
    rw [e1, w.1]
    have w2 := w.2
    rw [SL_len] at w2
    exact stO_l h m j (r + 1) _ _ _ w2
/-- the model counts through: the i-th that is of a kind -/
def nthS (P : Nat → Bool) : Nat → Nat → Nat → Int
  | 0, _, _ => -1
  | n + 1, c, l => if P c = true then (if l = 0 then (c : Int) else nthS P n (c + 1) (l - 1)) else nthS P n (c + 1) l
theorem nthS_s (P : Nat → Bool) (n c l : Nat) : nthS P (n + 1) c l = if P c = true then (if l = 0 then (c : Int) else nthS P n (c + 1) (l - 1)) else nthS P n (c + 1) l := rfl
theorem nthS_l (P : Nat → Bool) : ∀ n c l, nthS P n c l = if l < ((List.range' c n).filter P).length then ((((List.range' c n).filter P).getD l 0 : Nat) : Int) else -1
  | 0, _, _ => rfl
  | n + 1, c, l => by
    rw [nthS_s, r1_s, List.filter_cons]
    by_cases q : P c = true
    · rw [if_pos q, if_pos q]
      cases l with
      | zero => rw [if_pos rfl, if_pos (by simp)]; rfl
      | succ l =>
        rw [if_neg (Nat.succ_ne_zero l), nthS_l P n, Nat.add_sub_cancel, List.length_cons]
        by_cases z : l < ((List.range' (c + 1) n).filter P).length
        · rw [if_pos z, if_pos (by omega)]; rfl
        · rw [if_neg z, if_neg (by omega)]
    · rw [if_neg q, if_neg q, nthS_l P n]
/-- a number whose last figures are a strip's -/
def spd (h : Nat → Nat) (m : Nat) : Nat → Nat → Nat → Nat → Bool
  | 0, _, rest, _ => rest == 0
  | j + 1, r, rest, x => decide (h r ≤ x / 10 ^ j % 10 ∧ x / 10 ^ j % 10 ≤ h r + rmo h m r ∧ x / 10 ^ j % 10 - h r ≤ rest) && spd h m j (r + 1) (rest - (x / 10 ^ j % 10 - h r)) x
theorem r1_mul (N : Nat) : ∀ n a, List.range' a (n * N) = (List.range' 0 n).flatMap (fun d => List.range' (a + d * N) N)
  | 0, a => by rw [Nat.zero_mul]; rfl
  | n + 1, a => by
    have e : (List.range' 0 (n + 1)).flatMap (fun d => List.range' (a + d * N) N) = (List.range' 0 n).flatMap (fun d => List.range' (a + d * N) N) ++ List.range' (a + n * N) N := by
      have q := List.range'_concat (s := 0) (n := n) (step := 1)
      rw [q, List.flatMap_append, List.flatMap_cons]
      simp
    rw [e, ← r1_mul N n a, Nat.add_mul, Nat.one_mul, List.range'_append_1]
theorem r1_sub (X : Nat → List Nat) (lo n : Nat) (C : Nat → Bool) (hC : ∀ d, C d = decide (lo ≤ d ∧ d < lo + n)) : ∀ k e, e + k ≤ lo + n → lo ≤ e → (List.range' e k).flatMap (fun d => if C d = true then X d else []) = (List.range' (e - lo) k).flatMap (fun d => X (lo + d))
  | 0, _, _, _ => rfl
  | k + 1, e, h1, h2 => by
    rw [r1_s, r1_s, List.flatMap_cons, List.flatMap_cons, if_pos (by rw [hC]; exact decide_eq_true (by omega)), r1_sub X lo n C hC k (e + 1) (by omega) (by omega), show lo + (e - lo) = e by omega, show e + 1 - lo = e - lo + 1 by omega]
theorem r1_out (X : Nat → List Nat) (C : Nat → Bool) : ∀ k e, (∀ d, e ≤ d → d < e + k → C d = false) → (List.range' e k).flatMap (fun d => if C d = true then X d else []) = []
  | 0, _, _ => rfl
  | k + 1, e, h => by
    rw [r1_s, List.flatMap_cons, if_neg (by rw [h e (Nat.le_refl _) (by omega)]; decide), r1_out X C k (e + 1) (fun d a b => h d (by omega) (by omega))]
    rfl
theorem r1_cut (X : Nat → List Nat) (lo n N : Nat) (hN : lo + n ≤ N) : (List.range' 0 N).flatMap (fun d => if decide (lo ≤ d ∧ d < lo + n) = true then X d else []) = (List.range' 0 n).flatMap (fun d => X (lo + d)) := by
  have e1 : List.range' 0 N = List.range' 0 lo ++ (List.range' lo n ++ List.range' (lo + n) (N - lo - n)) := by
    rw [List.range'_append_1, show n + (N - lo - n) = N - lo by omega]
    have q := List.range'_append_1 (s := 0) (m := lo) (n := N - lo)
    rw [Nat.zero_add] at q
    rw [q, show lo + (N - lo) = N by omega]
  rw [e1, List.flatMap_append, List.flatMap_append, r1_out X _ lo 0 (fun d _ b => decide_eq_false (by omega)), r1_out X _ _ (lo + n) (fun d a _ => decide_eq_false (by omega)), r1_sub X lo n _ (fun d => rfl) n lo (Nat.le_refl _) (Nat.le_refl _), Nat.sub_self, List.nil_append, List.append_nil]
theorem fil_cong {P Q : Nat → Bool} : ∀ (n s : Nat), (∀ x, s ≤ x → x < s + n → P x = Q x) → (List.range' s n).filter P = (List.range' s n).filter Q
  | 0, _, _ => rfl
  | n + 1, s, h => by rw [r1_s, List.filter_cons, List.filter_cons, h s (Nat.le_refl _) (by omega), fil_cong n (s + 1) (fun x a b => h x (by omega) (by omega))]
theorem fil_none : ∀ (n s : Nat) {P : Nat → Bool}, (∀ x, s ≤ x → x < s + n → P x = false) → (List.range' s n).filter P = []
  | 0, _, _, _ => rfl
  | n + 1, s, P, h => by rw [r1_s, List.filter_cons, if_neg (by rw [h s (Nat.le_refl _) (by omega)]; decide), fil_none n (s + 1) (fun x a b => h x (by omega) (by omega))]
theorem fil_flat (f : Nat → List Nat) (P : Nat → Bool) : ∀ l : List Nat, (l.flatMap f).filter P = l.flatMap (fun d => (f d).filter P)
  | [] => rfl
  | a :: l => by rw [List.flatMap_cons, List.flatMap_cons, List.filter_append, fil_flat f P l]
theorem flat_cong {f g : Nat → List Nat} : ∀ (n s : Nat), (∀ x, s ≤ x → x < s + n → f x = g x) → (List.range' s n).flatMap f = (List.range' s n).flatMap g
  | 0, _, _ => rfl
  | n + 1, s, h => by rw [r1_s, List.flatMap_cons, List.flatMap_cons, h s (Nat.le_refl _) (by omega), flat_cong n (s + 1) (fun x a b => h x (by omega) (by omega))]
theorem blk_d {s d j x : Nat} (hd : d < 10) (h1 : (s * 10 + d) * 10 ^ j ≤ x) (h2 : x < (s * 10 + d) * 10 ^ j + 10 ^ j) : x / 10 ^ j % 10 = d := by
  have hp : 0 < 10 ^ j := Nat.pow_pos (by decide)
  have e : x / 10 ^ j = s * 10 + d := by
    refine Nat.div_eq_of_lt_le h1 ?_
    rw [Nat.add_mul (s * 10 + d) 1, Nat.one_mul]
    exact h2
  rw [e]
  omega
theorem SL_fil (h : Nat → Nat) (m : Nat) : ∀ j r rest s, (∀ q, r ≤ q → q < r + j → h q + rmo h m q ≤ 9) → (List.range' (s * 10 ^ j) (10 ^ j)).filter (spd h m j r rest) = SL h m j r rest s
  | 0, r, rest, s, _ => by
    rw [Nat.pow_zero, Nat.mul_one]
    show (List.range' s (0 + 1)).filter (fun _ => rest == 0) = if rest = 0 then [s] else []
    rw [r1_s, List.filter_cons]
    by_cases q : rest = 0
    · rw [if_pos (by simpa using q), if_pos q]; rfl
    · rw [if_neg (by simpa using q), if_neg q]; rfl
  | j + 1, r, rest, s, hb => by
    have hr := hb r (Nat.le_refl _) (by omega)
    rw [show 10 ^ (j + 1) = 10 * 10 ^ j by rw [Nat.pow_succ, Nat.mul_comm], r1_mul, fil_flat]
    have e1 : (List.range' 0 10).flatMap (fun d => (List.range' (s * (10 * 10 ^ j) + d * 10 ^ j) (10 ^ j)).filter (spd h m (j + 1) r rest)) = (List.range' 0 10).flatMap (fun d => if decide (h r ≤ d ∧ d < h r + (min (rmo h m r) rest + 1)) = true then SL h m j (r + 1) (rest - (d - h r)) (s * 10 + d) else []) := by
      refine flat_cong 10 0 (fun d _ hd => ?_)
      have e2 : s * (10 * 10 ^ j) + d * 10 ^ j = (s * 10 + d) * 10 ^ j := by rw [Nat.add_mul, Nat.mul_assoc]
      rw [e2]
      by_cases q : h r ≤ d ∧ d < h r + (min (rmo h m r) rest + 1)
      · rw [if_pos (decide_eq_true q), ← SL_fil h m j (r + 1) (rest - (d - h r)) (s * 10 + d) (fun q2 a b => hb q2 (by omega) (by omega))]
        refine fil_cong _ _ (fun x a b => ?_)
        have hd2 := blk_d (by omega) a b
        show (decide (h r ≤ x / 10 ^ j % 10 ∧ x / 10 ^ j % 10 ≤ h r + rmo h m r ∧ x / 10 ^ j % 10 - h r ≤ rest) && spd h m j (r + 1) (rest - (x / 10 ^ j % 10 - h r)) x) = _
        rw [hd2, decide_eq_true (by omega), Bool.true_and]
      · rw [if_neg (by rw [decide_eq_false q]; decide)]
        refine fil_none _ _ (fun x a b => ?_)
        have hd2 := blk_d (by omega) a b
        show (decide (h r ≤ x / 10 ^ j % 10 ∧ x / 10 ^ j % 10 ≤ h r + rmo h m r ∧ x / 10 ^ j % 10 - h r ≤ rest) && spd h m j (r + 1) (rest - (x / 10 ^ j % 10 - h r)) x) = false
        rw [hd2, decide_eq_false (by omega), Bool.false_and]
    rw [e1, r1_cut (fun d => SL h m j (r + 1) (rest - (d - h r)) (s * 10 + d)) (h r) (min (rmo h m r) rest + 1) 10 (by omega)]
    show _ = (List.range' 0 (min (rmo h m r) rest + 1)).flatMap (fun e => SL h m j (r + 1) (rest - e) (s * 10 + h r + e))
    refine flat_cong _ _ (fun e _ _ => ?_)
    rw [show h r + e - h r = e by omega, Nat.add_assoc]
theorem plc_a (h : Nat → Nat) : ∀ j r c, plc h j r c = plc h j r 0 + c
  | 0, _, c => (Nat.zero_add c).symm
  | j + 1, r, c => by
    show plc h j (r + 1) (c + h r) = plc h j (r + 1) (0 + h r) + c
    rw [plc_a h j (r + 1) (c + h r), plc_a h j (r + 1) (0 + h r)]
    omega
theorem plc_le (h d : Nat → Nat) : ∀ j r, (∀ q, r ≤ q → q < r + j → h q ≤ d q) → plc h j r 0 ≤ plc d j r 0
  | 0, _, _ => Nat.le_refl _
  | j + 1, r, hq => by
    have q0 := hq r (Nat.le_refl _) (by omega)
    have ih := plc_le h d j (r + 1) (fun q a b => hq q (by omega) (by omega))
    show plc h j (r + 1) (0 + h r) ≤ plc d j (r + 1) (0 + d r)
    rw [plc_a h j (r + 1) (0 + h r), plc_a d j (r + 1) (0 + d r)]
    omega
theorem spd_iff (h : Nat → Nat) (m k x : Nat) : ∀ j r rest, r + j = k → (spd h m j r rest x = true ↔ (∀ q, r ≤ q → q < k → h q ≤ dgt x k q ∧ dgt x k q ≤ h q + rmo h m q) ∧ plc (dgt x k) j r 0 = plc h j r 0 + rest)
  | 0, r, rest, hr => by
    show (rest == 0) = true ↔ (∀ q, r ≤ q → q < k → _) ∧ 0 = 0 + rest
    constructor
    · intro w
      have w2 : rest = 0 := by simpa using w
      exact ⟨fun q a b => by omega, by omega⟩
    · intro w
      have w2 : rest = 0 := by omega
      rw [w2]
      rfl
  | j + 1, r, rest, hr => by
    have hd : dgt x k r = x / 10 ^ j % 10 := by
      unfold dgt fat
      rw [show k - 1 - r = j by omega]
    have ih := spd_iff h m k x j (r + 1) (rest - (dgt x k r - h r)) (by omega)
    show (decide (h r ≤ x / 10 ^ j % 10 ∧ x / 10 ^ j % 10 ≤ h r + rmo h m r ∧ x / 10 ^ j % 10 - h r ≤ rest) && spd h m j (r + 1) (rest - (x / 10 ^ j % 10 - h r)) x) = true ↔ _
    rw [← hd, Bool.and_eq_true, ih]
    have p1 : plc (dgt x k) (j + 1) r 0 = plc (dgt x k) j (r + 1) 0 + dgt x k r := by
      show plc (dgt x k) j (r + 1) (0 + dgt x k r) = _
      rw [plc_a, Nat.zero_add]
    have p2 : plc h (j + 1) r 0 = plc h j (r + 1) 0 + h r := by
      show plc h j (r + 1) (0 + h r) = _
      rw [plc_a, Nat.zero_add]
    rw [p1, p2]
    constructor
    · rintro ⟨w1, w2, w3⟩
      have w4 := of_decide_eq_true w1
      refine ⟨fun q a b => ?_, by omega⟩
      by_cases z : q = r
      · rw [z]; omega
      · exact w2 q (by omega) b
    · rintro ⟨w1, w2⟩
      have w3 := w1 r (Nat.le_refl _) (by omega)
      have w4 := plc_le h (dgt x k) j (r + 1) (fun q a b => (w1 q (by omega) (by omega)).1)
      refine ⟨decide_eq_true (by omega), fun q a b => w1 q (by omega) b, by omega⟩
/-- a strip as the model finds it -/
def spB (h : Nat → Nat) (k m p c : Nat) : Bool := isBx (k : Int) (m : Int) (c : Int) && (decide (plc (dgt c k) k 0 0 = plc h k 0 0 + p) && decide (∀ r, r < k → h r ≤ dgt c k r ∧ (r = 0 ∨ dgt c k r ≤ h (r - 1))))
theorem bxl_t (d : Nat → Nat) : ∀ j p a, (∀ q, p ≤ q → q < p + j → d q ≤ (if q = p then a else d (q - 1))) → bxl d j p a = true
  | 0, _, _, _ => rfl
  | j + 1, p, a, h => by
    have h0 := h p (Nat.le_refl _) (by omega)
    rw [if_pos rfl] at h0
    rw [bxl_s, if_neg (by omega)]
    refine bxl_t d j (p + 1) (d p) (fun q a b => ?_)
    have h1 := h q (by omega) (by omega)
    rw [if_neg (by omega)] at h1
    by_cases z : q = p + 1
    · rw [if_pos z]
      rw [show q - 1 = p by omega] at h1
      exact h1
    · rw [if_neg z]
      exact h1
theorem spB_d {h : Nat → Nat} {k m p c : Nat} (h1 : 1 ≤ k) (h2 : k ≤ 4) (h3 : 1 ≤ m) (h4 : m ≤ 4) (hv : bxv h k m) (hc : c < 10 ^ k) : spB h k m p c = spd h m k 0 p c := by
  have hi := spd_iff h m k c k 0 p (by omega)
  have up : ∀ q, q < k → h q + rmo h m q = if q = 0 then m else h (q - 1) := by
    intro q hq
    have := hv q hq
    unfold rmo
    omega
  have hb := isBx_f h1 h2 h3 h4 hc
  unfold spB
  rw [Bool.eq_iff_iff, hi, Bool.and_eq_true, Bool.and_eq_true, hb]
  constructor
  · rintro ⟨w1, w2, w3⟩
    have w4 := of_decide_eq_true w2
    have w5 := of_decide_eq_true w3
    refine ⟨fun q _ hq => ?_, w4⟩
    have w6 := w5 q hq
    rw [up q hq]
    by_cases z : q = 0
    · rw [if_pos z]
      have w7 := bxl_v _ _ _ _ w1 q (Nat.zero_le _) (by omega)
      rw [if_pos z] at w7
      exact ⟨w6.1, w7⟩
    · rw [if_neg z]
      exact ⟨w6.1, w6.2.resolve_left z⟩
  · rintro ⟨w1, w2⟩
    refine ⟨bxl_t _ _ _ _ (fun q _ hq => ?_), decide_eq_true w2, decide_eq_true (fun r hr => ?_)⟩
    · have w3 := w1 q (Nat.zero_le _) (by omega)
      rw [up q (by omega)] at w3
      by_cases z : q = 0
      · rw [if_pos z] at w3 ⊢
        exact w3.2
      · rw [if_neg z] at w3 ⊢
        have w4 := w1 (q - 1) (Nat.zero_le _) (by omega)
        omega
    · have w3 := w1 r (Nat.zero_le _) hr
      rw [up r hr] at w3
      refine ⟨w3.1, ?_⟩
      by_cases z : r = 0
      · exact Or.inl z
      · rw [if_neg z] at w3
        exact Or.inr w3.2
theorem stA_n {h : Nat → Nat} {k m p : Nat} (h1 : 1 ≤ k) (h2 : k ≤ 4) (h3 : 1 ≤ m) (h4 : m ≤ 4) (hv : bxv h k m) {i : Int} (hi : 0 ≤ i) : stA h k m p i = nthS (spB h k m p) (10 ^ k) 0 i.toNat := by
  have e : (List.range' 0 (10 ^ k)).filter (spB h k m p) = SL h m k 0 p 0 := by
    have q := SL_fil h m k 0 p 0 (fun q _ hq => by
      have w := (rmo_le hv q (by omega)).1
      have w2 := hv q (by omega)
      unfold rmo
      by_cases z : q = 0
      · rw [if_pos z] at w2 ⊢; omega
      · rw [if_neg z] at w2 ⊢
        have w3 := (rmo_le hv (q - 1) (by omega)).1
        omega)
    rw [Nat.zero_mul] at q
    rw [← q]
    exact fil_cong _ _ (fun x _ hx => spB_d h1 h2 h3 h4 hv (by omega))
  unfold stA
  rw [nthS_l, e, SL_len]
  by_cases q : (stp h m k 0 p : Int) ≤ i
  · rw [if_pos (Or.inr q), if_neg (by omega)]
  · rw [if_neg (by omega), if_pos (by omega), stO_l h m k 0 i.toNat p 0 (by omega)]

theorem bI_and (a b : Bool) : bI a &&& bI b = bI (a && b) := by cases a <;> cases b <;> decide
theorem plc_9 {h : Nat → Nat} (hh : ∀ p, h p < 10) : ∀ j r, plc h j r 0 ≤ 10 * j
  | 0, _ => Nat.le_refl _
  | j + 1, r => by
    have q := plc_9 (h := h) hh j (r + 1)
    have w := hh r
    show plc h j (r + 1) (0 + h r) ≤ _
    rw [plc_a]
    omega

set_option maxRecDepth 4000 in
set_option maxHeartbeats 1000000 in
theorem C11_strip  (G : Nat → Nat → Int32) (L : Nat → Nat → Int64) (k m b p i : Int) (k1 : -2147483648 ≤ k) (k2 : k < 2147483648) (m1 : -2147483648 ≤ m) (m2 : m < 2147483648) (b1 : -2147483648 ≤ b) (b2 : b < 2147483648) (p1 : -2147483648 ≤ p) (p2 : p < 2147483648) (i1 : -2147483648 ≤ i) (i2 : i < 2147483648) : fv_M Y11_strip 2 0 0 [.ref 0, .int (iI k), .int (iI m), .int (iI b), .int (iI p), .int (iI i)] (fw mT G L) none (qmb G L (xStr k m b p i)) := by
  refine fv_enter rfl (Nat.le_of_ble_eq_true rfl) ?_
  obtain ⟨Q, hQ⟩ : ∃ Q : Option Value → fv_F → Option Nat → Prop, Q = (qmb G L (xStr k m b p i)) := ⟨_, rfl⟩
  rw [← hQ]
  show fv_At Y11_strip 2 0 0 Q 0 [(0, .ref 0), (1, .int (iI k)), (2, .int (iI m)), (3, .int (iI b)), (4, .int (iI p)), (5, .int (iI i))] [] (fw mT G L) none 0 0
  refine fx_iload_n dX11_strip_0 rfl (i := 1) rfl ?_
  refine fx_iload_n dX11_strip_1 rfl (i := 2) rfl ?_
  refine fn_cS dX11_strip_2 lk11_210 (C11_areSides k m (by omega) (by omega) (by omega) (by omega) (fw mT G L)) rfl rfl (by decide) (Nat.le_of_ble_eq_true rfl) ?_
  show fv_At Y11_strip 2 0 0 Q 5 [(0, .ref 0), (1, .int (iI k)), (2, .int (iI m)), (3, .int (iI b)), (4, .int (iI p)), (5, .int (iI i))] [.int (bI (isSh k m))] (fw mT G L) none 0 0
  refine fn_if_eqB (tgt := 34) dX11_strip_5 (by decide) (fun c5 => ?_) (fun c5 => ?_)
  · skip
    refine fx_bipush (v := (iI (-2))) dX11_strip_34 (by decide) ?_
    exact fx_iret dX11_strip_36 rfl rfl rfl (by rw [hQ]; exact ⟨G, by unfold xStr; rw [if_neg (fun w => by first | (have q3 := (isBx_3 w.1).1; rw [c5] at q3; exact absurd q3 (by decide)) | exact absurd (c18.symm.trans w.1) (by decide) | (have h3 := of_decide_eq_false c31; have w2 := w.2; omega))], rfl, rfl, fun _ _ _ _ _ _ _ _ _ _ => rfl⟩)
  · skip
    have hsh := isSh_1 c5
    obtain ⟨k0, rfl⟩ : ∃ z : Nat, k = (z : Int) := ⟨k.toNat, by omega⟩
    obtain ⟨m0, rfl⟩ : ∃ z : Nat, m = (z : Int) := ⟨m.toNat, by omega⟩
    show fv_At Y11_strip 2 0 0 Q 8 [(0, .ref 0), (1, .int (nI k0)), (2, .int (nI m0)), (3, .int (iI b)), (4, .int (iI p)), (5, .int (iI i))] [] (fw mT G L) none 0 0
    refine fx_iload_n dX11_strip_8 rfl (i := 1) rfl ?_
    refine fx_iload_n dX11_strip_9 rfl (i := 2) rfl ?_
    refine fx_iload_n dX11_strip_10 rfl (i := 3) rfl ?_
    refine fx_aload_n dX11_strip_11 rfl (i := 0) rfl ?_
    refine fw_getr dX11_strip_12 fd11_46 rfl rfl ?_
    refine fx_callS dX11_strip_15 lk11_214 (C11_isBox G L 12 rfl k0 m0 (by omega) (by omega) (by omega) (by omega) b (by omega) (by omega)) rfl rfl (by decide) (Nat.le_of_ble_eq_true rfl) (by decide) (by decide) (fun r15 f15 al15 h15 => ?_)
    obtain ⟨G15, rfl, rfl, rfl, ho15, hd15⟩ := h15
    show fv_At Y11_strip 2 0 0 Q 18 [(0, .ref 0), (1, .int (nI k0)), (2, .int (nI m0)), (3, .int (iI b)), (4, .int (iI p)), (5, .int (iI i))] [.int (bI (isBx (k0 : Int) (m0 : Int) b))] (fw mT G15 L) none 0 0
    refine fn_if_eqB (tgt := 34) dX11_strip_18 (by decide) (fun c18 => ?_) (fun c18 => ?_)
    · skip
      refine fx_bipush (v := (iI (-2))) dX11_strip_34 (by decide) ?_
      exact fx_iret dX11_strip_36 rfl rfl rfl (by rw [hQ]; exact ⟨G15, by unfold xStr; rw [if_neg (fun w => by first | (have q3 := (isBx_3 w.1).1; rw [c5] at q3; exact absurd q3 (by decide)) | exact absurd (c18.symm.trans w.1) (by decide) | (have h3 := of_decide_eq_false c31; have w2 := w.2; omega))], rfl, rfl, fun i q1 _ _ _ _ _ _ _ _ => ho15 i q1⟩)
    · skip
      refine fx_iload dX11_strip_21 rfl ?_
      refine fx_i2l dX11_strip_23 ?_
      refine fn_toL (show _ = lI p from lI_of (z := p) (by omega) (by omega)) ?_
      refine fx_lconst (v := 0) dX11_strip_24 (by decide) ?_
      refine fn_toL (show _ = (lI 0) from (by decide)) ?_
      refine fx_ldc2 dX11_strip_25 kc11_218 (fn_toL (show _ = lI (16) by decide) ?_)
      refine fn_cS dX11_strip_28 lk11_126 (C11_in (v := p) (a := 0) (b := 16) (by omega) (by omega) (by omega) (by omega) (by omega) (by omega) (f := (fw mT G15 L))) rfl rfl (by decide) (Nat.le_of_ble_eq_true rfl) ?_
      show fv_At Y11_strip 2 0 0 Q 31 [(0, .ref 0), (1, .int (nI k0)), (2, .int (nI m0)), (3, .int (iI b)), (4, .int (iI p)), (5, .int (iI i))] [.int (bI (decide (0 ≤ p ∧ p ≤ 16)))] (fw mT G15 L) none 0 0
      refine fn_if_neB (tgt := 37) dX11_strip_31 (by decide) (fun c31 => ?_) (fun c31 => ?_)
      · skip
        have him := of_decide_eq_true c31
        have hin : isBx (k0 : Int) (m0 : Int) b = true ∧ 0 ≤ p ∧ p ≤ 16 := ⟨c18, him.1, him.2⟩
        have hbs := isBx_s c18
        have hbv := isBx_v c18
        obtain ⟨b0, rfl⟩ : ∃ z : Nat, b = (z : Int) := ⟨b.toNat, by omega⟩
        obtain ⟨p0, rfl⟩ : ∃ z : Nat, p = (z : Int) := ⟨p.toNat, by omega⟩
        have hdg := hd15 (by omega)
        have h10 : 10 ^ k0 ≤ 10 ^ 4 := Nat.pow_le_pow_right (by decide) (by omega)
        obtain ⟨u, hu⟩ : ∃ u, u = 10 ^ k0 := ⟨_, rfl⟩
        rw [← hu] at h10
        have hbv2 : bxv (dgt b0 k0) k0 m0 := hbv
        have hxs : xStr (k0 : Int) (m0 : Int) (b0 : Int) (p0 : Int) i = stA (dgt b0 k0) k0 m0 p0 i := by unfold xStr; exact if_pos hin
        have hcv : ∀ x, xStr (k0 : Int) (m0 : Int) (b0 : Int) (p0 : Int) i = x → 0 ≤ i → nthS (spB (dgt b0 k0) k0 m0 p0) u 0 i.toNat = x := fun x hx hi => by rw [hu, ← stA_n (by omega) (by omega) (by omega) (by omega) hbv2 hi, ← hxs, hx]
        show fv_At Y11_strip 2 0 0 Q 37 [(0, .ref 0), (1, .int (nI k0)), (2, .int (nI m0)), (3, .int (nI b0)), (4, .int (nI p0)), (5, .int (iI i))] [] (fw mT G15 L) none 0 0
        refine fx_iload dX11_strip_37 rfl ?_
        refine fx_istore (lv2 := [(0, .ref 0), (1, .int (nI k0)), (2, .int (nI m0)), (3, .int (nI b0)), (4, .int (nI p0)), (5, .int (iI i)), (6, .int (iI i))]) dX11_strip_39 (by decide) rfl ?_
        refine fx_iconst (v := (nI 0)) dX11_strip_41 (by decide) ?_
        refine fx_istore (lv2 := [(0, .ref 0), (1, .int (nI k0)), (2, .int (nI m0)), (3, .int (nI b0)), (4, .int (nI p0)), (5, .int (iI i)), (6, .int (iI i)), (7, .int (nI 0))]) dX11_strip_42 (by decide) rfl ?_
        have L44 : ∀ (n : Nat) (lf : Int) (c : Nat) (l : Nat) (G1 : Nat → Nat → Int32), (c + n = u) → (0 ≤ i → lf = (l : Int) ∧ l < 2147483648) → (0 ≤ i → nthS (spB (dgt b0 k0) k0 m0 p0) n c l = nthS (spB (dgt b0 k0) k0 m0 p0) u 0 i.toNat) → (∀ j, j ≠ 12 → j ≠ 14 → G1 j = G j) → (∀ p, p < k0 → G1 12 p = nI (dgt b0 k0 p)) → fv_At Y11_strip 2 0 0 Q 44 [(0, .ref 0), (1, .int (nI k0)), (2, .int (nI m0)), (3, .int (nI b0)), (4, .int (nI p0)), (5, .int (iI i)), (6, .int (iI lf)), (7, .int (nI c))] [] (fw mT G1 L) none 0 0 := by
          intro n
          induction n with
          | zero =>
            intro lf c l G1 hc hlf hR hoG hdA
            refine fx_iload dX11_strip_44 rfl ?_
            refine fx_iload_n dX11_strip_46 rfl (i := 1) rfl ?_
            refine fn_cS dX11_strip_47 lk11_220 (C11_tens (n := k0) (by omega) (f := (fw mT G1 L))) rfl rfl (by decide) (Nat.le_of_ble_eq_true rfl) ?_
            show fv_At Y11_strip 2 0 0 Q 50 [(0, .ref 0), (1, .int (nI k0)), (2, .int (nI m0)), (3, .int (nI b0)), (4, .int (nI p0)), (5, .int (iI i)), (6, .int (iI lf)), (7, .int (nI c))] [.int (nI (10 ^ k0)), .int (nI c)] (fw mT G1 L) none 0 0
            refine fn_icmp_ge (tgt := 197) dX11_strip_50 (by decide) (by omega) (by rw [← hu]; omega) (fun c50 => ?_) (fun c50 => ?_)
            · skip
              refine fx_iconst (v := (iI (-1))) dX11_strip_197 (by decide) ?_
              exact fx_iret dX11_strip_198 rfl rfl rfl (by rw [hQ]; exact ⟨G1, by rw [show xStr (k0 : Int) (m0 : Int) (b0 : Int) (p0 : Int) i = -1 by by_cases hi : 0 ≤ i; (first | exact (hcv _ rfl hi).symm.trans (hR hi).symm | omega); (rw [hxs]; unfold stA; exact if_pos (Or.inl (by omega)))], rfl, rfl, fun j q1 q2 q3 _ _ _ _ _ _ => hoG j q1 q3⟩)
            · (exfalso; rw [← hu] at c50; omega)
          | succ n ih44 =>
            intro lf c l G1 hc hlf hR hoG hdA
            refine fx_iload dX11_strip_44 rfl ?_
            refine fx_iload_n dX11_strip_46 rfl (i := 1) rfl ?_
            refine fn_cS dX11_strip_47 lk11_220 (C11_tens (n := k0) (by omega) (f := (fw mT G1 L))) rfl rfl (by decide) (Nat.le_of_ble_eq_true rfl) ?_
            show fv_At Y11_strip 2 0 0 Q 50 [(0, .ref 0), (1, .int (nI k0)), (2, .int (nI m0)), (3, .int (nI b0)), (4, .int (nI p0)), (5, .int (iI i)), (6, .int (iI lf)), (7, .int (nI c))] [.int (nI (10 ^ k0)), .int (nI c)] (fw mT G1 L) none 0 0
            refine fn_icmp_ge (tgt := 197) dX11_strip_50 (by decide) (by omega) (by rw [← hu]; omega) (fun c50 => ?_) (fun c50 => ?_)
            · (exfalso; rw [← hu] at c50; omega)
            · skip
              rw [← hu] at c50
              refine fx_iload dX11_strip_53 rfl ?_
              refine fn_if_ltZ (tgt := 197) dX11_strip_55 (by decide) (by omega) (by omega) (fun c55 => ?_) (fun c55 => ?_)
              · skip
                refine fx_iconst (v := (iI (-1))) dX11_strip_197 (by decide) ?_
                exact fx_iret dX11_strip_198 rfl rfl rfl (by rw [hQ]; exact ⟨G1, by rw [show xStr (k0 : Int) (m0 : Int) (b0 : Int) (p0 : Int) i = -1 by by_cases hi : 0 ≤ i; (first | exact (hcv _ rfl hi).symm.trans (hR hi).symm | omega); (rw [hxs]; unfold stA; exact if_pos (Or.inl (by omega)))], rfl, rfl, fun j q1 q2 q3 _ _ _ _ _ _ => hoG j q1 q3⟩)
              · skip
                refine fx_iload_n dX11_strip_58 rfl (i := 1) rfl ?_
                refine fx_iload_n dX11_strip_59 rfl (i := 2) rfl ?_
                refine fx_iload dX11_strip_60 rfl ?_
                refine fx_aload_n dX11_strip_62 rfl (i := 0) rfl ?_
                refine fw_getr dX11_strip_63 fd11_52 rfl rfl ?_
                refine fx_callS dX11_strip_66 lk11_214 (C11_isBox G1 L 14 rfl k0 m0 (by omega) (by omega) (by omega) (by omega) ((c : Nat) : Int) (by omega) (by omega)) rfl rfl (by decide) (Nat.le_of_ble_eq_true rfl) (by decide) (by decide) (fun r66 f66 al66 h66 => ?_)
                obtain ⟨G66, rfl, rfl, rfl, ho66, hd66⟩ := h66
                show fv_At Y11_strip 2 0 0 Q 69 [(0, .ref 0), (1, .int (nI k0)), (2, .int (nI m0)), (3, .int (nI b0)), (4, .int (nI p0)), (5, .int (iI i)), (6, .int (iI lf)), (7, .int (nI c))] [.int (bI (isBx (k0 : Int) (m0 : Int) ((c : Nat) : Int)))] (fw mT G66 L) none 0 0
                refine fn_if_eqB (tgt := 191) dX11_strip_69 (by decide) (fun c69 => ?_) (fun c69 => ?_)
                · skip
                  refine fn_iinc (c := 1) (lv2 := [(0, .ref 0), (1, .int (nI k0)), (2, .int (nI m0)), (3, .int (nI b0)), (4, .int (nI p0)), (5, .int (iI i)), (6, .int (iI lf)), (7, .int (nI (c + 1)))]) dX11_strip_191 (by decide) rfl (by decide) rfl ?_
                  refine fx_goto (tgt := 44) dX11_strip_194 (by decide) ?_
                  exact (ih44 lf (c + 1) l G66 (by omega) (fun h => by have := hlf h; omega) (fun h => by rw [← hR h, nthS_s]; rw [if_neg (by unfold spB; first | (rw [c69, Bool.false_and]; decide) | (rw [decide_eq_false (show ¬ plc (dgt c k0) k0 0 0 = plc (dgt b0 k0) k0 0 0 + p0 by omega), Bool.false_and, Bool.and_false]; decide))]) (fun j a b => (ho66 j b).trans (hoG j a b)) (fun p hp => by rw [ho66 12 (by decide)]; exact hdA p hp))
                · skip
                  have hpa := plc_9 (dgt_lt b0 k0) k0 0
                  have hpc := plc_9 (dgt_lt c k0) k0 0
                  refine fx_iload_n dX11_strip_72 rfl (i := 1) rfl ?_
                  refine fx_aload_n dX11_strip_73 rfl (i := 0) rfl ?_
                  refine fw_getr dX11_strip_74 fd11_52 rfl rfl ?_
                  refine fn_cS dX11_strip_77 lk11_223 (C11_sizeOf G66 L 14 rfl k0 (by omega) (dgt c k0) (fun p hp => hd66 (by omega) p hp)) rfl rfl (by decide) (Nat.le_of_ble_eq_true rfl) ?_
                  show fv_At Y11_strip 2 0 0 Q 80 [(0, .ref 0), (1, .int (nI k0)), (2, .int (nI m0)), (3, .int (nI b0)), (4, .int (nI p0)), (5, .int (iI i)), (6, .int (iI lf)), (7, .int (nI c))] [.int (nI (plc (dgt c k0) k0 0 0))] (fw mT G66 L) none 0 0
                  refine fx_iload_n dX11_strip_80 rfl (i := 1) rfl ?_
                  refine fx_aload_n dX11_strip_81 rfl (i := 0) rfl ?_
                  refine fw_getr dX11_strip_82 fd11_46 rfl rfl ?_
                  refine fn_cS dX11_strip_85 lk11_223 (C11_sizeOf G66 L 12 rfl k0 (by omega) (dgt b0 k0) (fun p hp => by rw [ho66 12 (by decide)]; exact hdA p hp)) rfl rfl (by decide) (Nat.le_of_ble_eq_true rfl) ?_
                  show fv_At Y11_strip 2 0 0 Q 88 [(0, .ref 0), (1, .int (nI k0)), (2, .int (nI m0)), (3, .int (nI b0)), (4, .int (nI p0)), (5, .int (iI i)), (6, .int (iI lf)), (7, .int (nI c))] [.int (nI (plc (dgt b0 k0) k0 0 0)), .int (nI (plc (dgt c k0) k0 0 0))] (fw mT G66 L) none 0 0
                  refine fn_isubZ (a := ((plc (dgt c k0) k0 0 0 : Nat) : Int)) (b := ((plc (dgt b0 k0) k0 0 0 : Nat) : Int)) dX11_strip_88 ?_
                  refine fx_iload dX11_strip_89 rfl ?_
                  refine fn_icmp_neZ (a := (((plc (dgt c k0) k0 0 0 : Nat) : Int)) - (((plc (dgt b0 k0) k0 0 0 : Nat) : Int))) (b := ((p0 : Nat) : Int)) (tgt := 191) dX11_strip_91 (by decide) (by omega) (by omega) (by omega) (by omega) (fun c91 => ?_) (fun c91 => ?_)
                  · skip
                    refine fn_iinc (c := 1) (lv2 := [(0, .ref 0), (1, .int (nI k0)), (2, .int (nI m0)), (3, .int (nI b0)), (4, .int (nI p0)), (5, .int (iI i)), (6, .int (iI lf)), (7, .int (nI (c + 1)))]) dX11_strip_191 (by decide) rfl (by decide) rfl ?_
                    refine fx_goto (tgt := 44) dX11_strip_194 (by decide) ?_
                    exact (ih44 lf (c + 1) l G66 (by omega) (fun h => by have := hlf h; omega) (fun h => by rw [← hR h, nthS_s]; rw [if_neg (by unfold spB; first | (rw [c69, Bool.false_and]; decide) | (rw [decide_eq_false (show ¬ plc (dgt c k0) k0 0 0 = plc (dgt b0 k0) k0 0 0 + p0 by omega), Bool.false_and, Bool.and_false]; decide))]) (fun j a b => (ho66 j b).trans (hoG j a b)) (fun p hp => by rw [ho66 12 (by decide)]; exact hdA p hp))
                  · skip
                    refine fx_iconst (v := (nI 1)) dX11_strip_94 (by decide) ?_
                    refine fn_to (show _ = (bI true) from rfl) ?_
                    refine fx_istore (lv2 := [(0, .ref 0), (1, .int (nI k0)), (2, .int (nI m0)), (3, .int (nI b0)), (4, .int (nI p0)), (5, .int (iI i)), (6, .int (iI lf)), (7, .int (nI c)), (8, .int (bI true))]) dX11_strip_95 (by decide) rfl ?_
                    refine fx_iconst (v := (nI 0)) dX11_strip_97 (by decide) ?_
                    refine fx_istore (lv2 := [(0, .ref 0), (1, .int (nI k0)), (2, .int (nI m0)), (3, .int (nI b0)), (4, .int (nI p0)), (5, .int (iI i)), (6, .int (iI lf)), (7, .int (nI c)), (8, .int (bI true)), (9, .int (nI 0))]) dX11_strip_98 (by decide) rfl ?_
                    have L100 : ∀ (j : Nat) (q : Bool) (r : Nat), (r + j = k0) → (q = true ↔ ∀ r2, r2 < r → dgt b0 k0 r2 ≤ dgt c k0 r2 ∧ (r2 = 0 ∨ dgt c k0 r2 ≤ dgt b0 k0 (r2 - 1))) → fv_At Y11_strip 2 0 0 Q 100 [(0, .ref 0), (1, .int (nI k0)), (2, .int (nI m0)), (3, .int (nI b0)), (4, .int (nI p0)), (5, .int (iI i)), (6, .int (iI lf)), (7, .int (nI c)), (8, .int (bI q)), (9, .int (nI r))] [] (fw mT G66 L) none 0 0 := by
                      intro j
                      induction j with
                      | zero =>
                        intro q r hj hq
                        refine fx_iload dX11_strip_100 rfl ?_
                        refine fx_iload_n dX11_strip_102 rfl (i := 1) rfl ?_
                        refine fn_icmp_ge (tgt := 163) dX11_strip_103 (by decide) (by omega) (by omega) (fun c103 => ?_) (fun c103 => ?_)
                        · skip
                          have hPB : spB (dgt b0 k0) k0 m0 p0 c = q := by
                            unfold spB
                            rw [c69, decide_eq_true (show plc (dgt c k0) k0 0 0 = plc (dgt b0 k0) k0 0 0 + p0 by omega), Bool.true_and, Bool.true_and, Bool.eq_iff_iff, decide_eq_true_iff, hq]
                            exact ⟨fun w r2 h => w r2 (by omega), fun w r2 h => w r2 (by omega)⟩
                          refine fx_iload dX11_strip_163 rfl ?_
                          refine fn_if_eqB (tgt := 176) dX11_strip_165 (by decide) (fun c165 => ?_) (fun c165 => ?_)
                          · skip
                            refine fx_iload dX11_strip_176 rfl ?_
                            refine fx_iload dX11_strip_178 rfl ?_
                            refine fn_if_eqB (tgt := 187) dX11_strip_180 (by decide) (fun c180 => ?_) (fun c180 => ?_)
                            · skip
                              refine fx_iconst (v := (nI 0)) dX11_strip_187 (by decide) ?_
                              refine fn_isubZ (a := lf) (b := ((0 : Nat) : Int)) dX11_strip_188 ?_
                              refine fx_istore (lv2 := [(0, .ref 0), (1, .int (nI k0)), (2, .int (nI m0)), (3, .int (nI b0)), (4, .int (nI p0)), (5, .int (iI i)), (6, .int (iI (lf - (((0 : Nat) : Int))))), (7, .int (nI c)), (8, .int (bI q)), (9, .int (nI r))]) dX11_strip_189 (by decide) rfl ?_
                              refine fn_iinc (c := 1) (lv2 := [(0, .ref 0), (1, .int (nI k0)), (2, .int (nI m0)), (3, .int (nI b0)), (4, .int (nI p0)), (5, .int (iI i)), (6, .int (iI (lf - (((0 : Nat) : Int))))), (7, .int (nI (c + 1))), (8, .int (bI q)), (9, .int (nI r))]) dX11_strip_191 (by decide) rfl (by decide) rfl ?_
                              refine fx_goto (tgt := 44) dX11_strip_194 (by decide) ?_
                              exact fn_sub [0, 1, 2, 3, 4, 5, 6, 7] rfl (ih44 (lf - (((0 : Nat) : Int))) (c + 1) l G66 (by omega) (fun h => by have := hlf h; omega) (fun h => by rw [← hR h, nthS_s]; rw [if_neg (by rw [hPB, c165]; decide)]) (fun j a b => (ho66 j b).trans (hoG j a b)) (fun p hp => by rw [ho66 12 (by decide)]; exact hdA p hp))
                            · exact absurd (c165.symm.trans c180) (by decide)
                          · skip
                            refine fx_iload dX11_strip_168 rfl ?_
                            refine fn_if_neZ (tgt := 176) dX11_strip_170 (by decide) (by omega) (by omega) (fun c170 => ?_) (fun c170 => ?_)
                            · skip
                              refine fx_iload dX11_strip_176 rfl ?_
                              refine fx_iload dX11_strip_178 rfl ?_
                              refine fn_if_eqB (tgt := 187) dX11_strip_180 (by decide) (fun c180 => ?_) (fun c180 => ?_)
                              · exact absurd (c165.symm.trans c180) (by decide)
                              · skip
                                refine fx_iconst (v := (nI 1)) dX11_strip_183 (by decide) ?_
                                refine fx_goto (tgt := 188) dX11_strip_184 (by decide) ?_
                                refine fn_isubZ (a := lf) (b := ((1 : Nat) : Int)) dX11_strip_188 ?_
                                refine fx_istore (lv2 := [(0, .ref 0), (1, .int (nI k0)), (2, .int (nI m0)), (3, .int (nI b0)), (4, .int (nI p0)), (5, .int (iI i)), (6, .int (iI (lf - (((1 : Nat) : Int))))), (7, .int (nI c)), (8, .int (bI q)), (9, .int (nI r))]) dX11_strip_189 (by decide) rfl ?_
                                refine fn_iinc (c := 1) (lv2 := [(0, .ref 0), (1, .int (nI k0)), (2, .int (nI m0)), (3, .int (nI b0)), (4, .int (nI p0)), (5, .int (iI i)), (6, .int (iI (lf - (((1 : Nat) : Int))))), (7, .int (nI (c + 1))), (8, .int (bI q)), (9, .int (nI r))]) dX11_strip_191 (by decide) rfl (by decide) rfl ?_
                                refine fx_goto (tgt := 44) dX11_strip_194 (by decide) ?_
                                exact fn_sub [0, 1, 2, 3, 4, 5, 6, 7] rfl (ih44 (lf - (((1 : Nat) : Int))) (c + 1) (l - 1) G66 (by omega) (fun h => by have := hlf h; omega) (fun h => by rw [← hR h, nthS_s]; rw [if_pos (by rw [hPB]; exact c165), if_neg (by have := hlf h; omega)]) (fun j a b => (ho66 j b).trans (hoG j a b)) (fun p hp => by rw [ho66 12 (by decide)]; exact hdA p hp))
                            · skip
                              refine fx_iload dX11_strip_173 rfl ?_
                              exact fx_iret dX11_strip_175 rfl rfl rfl (by rw [hQ]; exact ⟨G66, by rw [show xStr (k0 : Int) (m0 : Int) (b0 : Int) (p0 : Int) i = (c : Int) from (hcv _ rfl (by omega)).symm.trans ((hR (by omega)).symm.trans (by rw [nthS_s, if_pos (by rw [hPB]; exact c165), if_pos (by have := hlf (by omega); omega)]))]; rfl, rfl, rfl, fun j q1 q2 q3 _ _ _ _ _ _ => (ho66 j q3).trans (hoG j q1 q3)⟩)
                        · exfalso; omega
                      | succ j ih100 =>
                        intro q r hj hq
                        refine fx_iload dX11_strip_100 rfl ?_
                        refine fx_iload_n dX11_strip_102 rfl (i := 1) rfl ?_
                        refine fn_icmp_ge (tgt := 163) dX11_strip_103 (by decide) (by omega) (by omega) (fun c103 => ?_) (fun c103 => ?_)
                        · exfalso; omega
                        · skip
                          have hd5 := dgt_lt c k0 r
                          have hd6 := dgt_lt b0 k0 r
                          have hd7 := dgt_lt b0 k0 (r - 1)
                          refine fx_iload dX11_strip_106 rfl ?_
                          refine fx_aload_n dX11_strip_108 rfl (i := 0) rfl ?_
                          refine fw_getr dX11_strip_109 fd11_52 rfl rfl ?_
                          refine fx_iload dX11_strip_112 rfl ?_
                          refine fw_iald r dX11_strip_114 rfl rfl (by omega) (by decide) ?_
                          refine fn_to (show _ = (nI (dgt c k0 r)) from (hd66 (by omega) r (by omega))) ?_
                          refine fx_aload_n dX11_strip_115 rfl (i := 0) rfl ?_
                          refine fw_getr dX11_strip_116 fd11_46 rfl rfl ?_
                          refine fx_iload dX11_strip_119 rfl ?_
                          refine fw_iald r dX11_strip_121 rfl rfl (by omega) (by decide) ?_
                          refine fn_to (show _ = (nI (dgt b0 k0 r)) from (by rw [ho66 12 (by decide)]; exact hdA r (by omega))) ?_
                          refine fn_icmp_lt (tgt := 153) dX11_strip_122 (by decide) (by omega) (by omega) (fun c122 => ?_) (fun c122 => ?_)
                          · skip
                            refine fx_iconst (v := (nI 0)) dX11_strip_153 (by decide) ?_
                            refine fn_to (show _ = (bI false) from rfl) ?_
                            refine fx_iand dX11_strip_154 ?_
                            refine fn_to (show _ = (bI (q && false)) from (bI_and _ _)) ?_
                            refine fx_istore (lv2 := [(0, .ref 0), (1, .int (nI k0)), (2, .int (nI m0)), (3, .int (nI b0)), (4, .int (nI p0)), (5, .int (iI i)), (6, .int (iI lf)), (7, .int (nI c)), (8, .int (bI (q && false))), (9, .int (nI r))]) dX11_strip_155 (by decide) rfl ?_
                            refine fn_iinc (c := 1) (lv2 := [(0, .ref 0), (1, .int (nI k0)), (2, .int (nI m0)), (3, .int (nI b0)), (4, .int (nI p0)), (5, .int (iI i)), (6, .int (iI lf)), (7, .int (nI c)), (8, .int (bI (q && false))), (9, .int (nI (r + 1)))]) dX11_strip_157 (by decide) rfl (by decide) rfl ?_
                            refine fx_goto (tgt := 100) dX11_strip_160 (by decide) ?_
                            exact (ih100 (q && false) (r + 1) (by omega) ⟨fun w => absurd w (by rw [Bool.and_false]; decide), fun w => by have w2 := w r (by omega); omega⟩)
                          · skip
                            refine fx_iload dX11_strip_125 rfl ?_
                            refine fn_if_eq (tgt := 149) dX11_strip_127 (by decide) (by omega) (fun c127 => ?_) (fun c127 => ?_)
                            · skip
                              refine fx_iconst (v := (nI 1)) dX11_strip_149 (by decide) ?_
                              refine fn_to (show _ = (bI true) from rfl) ?_
                              refine fx_goto (tgt := 154) dX11_strip_150 (by decide) ?_
                              refine fx_iand dX11_strip_154 ?_
                              refine fn_to (show _ = (bI (q && true)) from (bI_and _ _)) ?_
                              refine fx_istore (lv2 := [(0, .ref 0), (1, .int (nI k0)), (2, .int (nI m0)), (3, .int (nI b0)), (4, .int (nI p0)), (5, .int (iI i)), (6, .int (iI lf)), (7, .int (nI c)), (8, .int (bI (q && true))), (9, .int (nI r))]) dX11_strip_155 (by decide) rfl ?_
                              refine fn_iinc (c := 1) (lv2 := [(0, .ref 0), (1, .int (nI k0)), (2, .int (nI m0)), (3, .int (nI b0)), (4, .int (nI p0)), (5, .int (iI i)), (6, .int (iI lf)), (7, .int (nI c)), (8, .int (bI (q && true))), (9, .int (nI (r + 1)))]) dX11_strip_157 (by decide) rfl (by decide) rfl ?_
                              refine fx_goto (tgt := 100) dX11_strip_160 (by decide) ?_
                              exact (ih100 (q && true) (r + 1) (by omega) ⟨fun w r2 h => by rw [Bool.and_true] at w; by_cases z : r2 = r; (rw [z]; refine ⟨by omega, by omega⟩); exact hq.mp w r2 (by omega), fun w => by rw [Bool.and_true]; exact hq.mpr (fun r2 h => w r2 (by omega))⟩)
                            · skip
                              refine fx_aload_n dX11_strip_130 rfl (i := 0) rfl ?_
                              refine fw_getr dX11_strip_131 fd11_52 rfl rfl ?_
                              refine fx_iload dX11_strip_134 rfl ?_
                              refine fw_iald r dX11_strip_136 rfl rfl (by omega) (by decide) ?_
                              refine fn_to (show _ = (nI (dgt c k0 r)) from (hd66 (by omega) r (by omega))) ?_
                              refine fx_aload_n dX11_strip_137 rfl (i := 0) rfl ?_
                              refine fw_getr dX11_strip_138 fd11_46 rfl rfl ?_
                              refine fx_iload dX11_strip_141 rfl ?_
                              refine fx_iconst (v := (nI 1)) dX11_strip_143 (by decide) ?_
                              refine fn_isub dX11_strip_144 (by omega) ?_
                              refine fw_iald (r - 1) dX11_strip_145 rfl rfl (by omega) (by decide) ?_
                              refine fn_to (show _ = (nI (dgt b0 k0 (r - 1))) from (by rw [ho66 12 (by decide)]; exact hdA (r - 1) (by omega))) ?_
                              refine fn_icmp_gt (tgt := 153) dX11_strip_146 (by decide) (by omega) (by omega) (fun c146 => ?_) (fun c146 => ?_)
                              · skip
                                refine fx_iconst (v := (nI 0)) dX11_strip_153 (by decide) ?_
                                refine fn_to (show _ = (bI false) from rfl) ?_
                                refine fx_iand dX11_strip_154 ?_
                                refine fn_to (show _ = (bI (q && false)) from (bI_and _ _)) ?_
                                refine fx_istore (lv2 := [(0, .ref 0), (1, .int (nI k0)), (2, .int (nI m0)), (3, .int (nI b0)), (4, .int (nI p0)), (5, .int (iI i)), (6, .int (iI lf)), (7, .int (nI c)), (8, .int (bI (q && false))), (9, .int (nI r))]) dX11_strip_155 (by decide) rfl ?_
                                refine fn_iinc (c := 1) (lv2 := [(0, .ref 0), (1, .int (nI k0)), (2, .int (nI m0)), (3, .int (nI b0)), (4, .int (nI p0)), (5, .int (iI i)), (6, .int (iI lf)), (7, .int (nI c)), (8, .int (bI (q && false))), (9, .int (nI (r + 1)))]) dX11_strip_157 (by decide) rfl (by decide) rfl ?_
                                refine fx_goto (tgt := 100) dX11_strip_160 (by decide) ?_
                                exact (ih100 (q && false) (r + 1) (by omega) ⟨fun w => absurd w (by rw [Bool.and_false]; decide), fun w => by have w2 := w r (by omega); omega⟩)
                              · skip
                                refine fx_iconst (v := (nI 1)) dX11_strip_149 (by decide) ?_
                                refine fn_to (show _ = (bI true) from rfl) ?_
                                refine fx_goto (tgt := 154) dX11_strip_150 (by decide) ?_
                                refine fx_iand dX11_strip_154 ?_
                                refine fn_to (show _ = (bI (q && true)) from (bI_and _ _)) ?_
                                refine fx_istore (lv2 := [(0, .ref 0), (1, .int (nI k0)), (2, .int (nI m0)), (3, .int (nI b0)), (4, .int (nI p0)), (5, .int (iI i)), (6, .int (iI lf)), (7, .int (nI c)), (8, .int (bI (q && true))), (9, .int (nI r))]) dX11_strip_155 (by decide) rfl ?_
                                refine fn_iinc (c := 1) (lv2 := [(0, .ref 0), (1, .int (nI k0)), (2, .int (nI m0)), (3, .int (nI b0)), (4, .int (nI p0)), (5, .int (iI i)), (6, .int (iI lf)), (7, .int (nI c)), (8, .int (bI (q && true))), (9, .int (nI (r + 1)))]) dX11_strip_157 (by decide) rfl (by decide) rfl ?_
                                refine fx_goto (tgt := 100) dX11_strip_160 (by decide) ?_
                                exact (ih100 (q && true) (r + 1) (by omega) ⟨fun w r2 h => by rw [Bool.and_true] at w; by_cases z : r2 = r; (rw [z]; refine ⟨by omega, by omega⟩); exact hq.mp w r2 (by omega), fun w => by rw [Bool.and_true]; exact hq.mpr (fun r2 h => w r2 (by omega))⟩)
                    exact (L100 k0 true 0 (by omega) ⟨fun _ r2 h => absurd h (Nat.not_lt_zero _), fun _ => rfl⟩)
        exact (L44 u i 0 i.toNat G15 (by omega) (fun h => by omega) (fun _ => rfl) (fun j q _ => ho15 j q) hdg)
      · skip
        refine fx_bipush (v := (iI (-2))) dX11_strip_34 (by decide) ?_
        exact fx_iret dX11_strip_36 rfl rfl rfl (by rw [hQ]; exact ⟨G15, by unfold xStr; rw [if_neg (fun w => by first | (have q3 := (isBx_3 w.1).1; rw [c5] at q3; exact absurd q3 (by decide)) | exact absurd (c18.symm.trans w.1) (by decide) | (have h3 := of_decide_eq_false c31; have w2 := w.2; omega))], rfl, rfl, fun i q1 _ _ _ _ _ _ _ _ => ho15 i q1⟩)
