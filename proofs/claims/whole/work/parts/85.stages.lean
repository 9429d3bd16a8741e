/-! ===== what a constructor makes: places from a on as the world told has them ===== -/
/-- places a to b as in W -/
def fil (W : fv_F) (a b : Nat) (f : fv_F) : fv_F := fun i => if a ≤ i ∧ i < b then W i else f i
/-- a constructor's end -/
def qfil (W : fv_F) (a b : Nat) (f : fv_F) : Option Value → fv_F → Option Nat → Prop := fun r2 f2 al2 => r2 = none ∧ al2 = some b ∧ f2 = fil W a b f
/-- under way: the object at a is o, behind it places up to n are made -/
def stg (W : fv_F) (a : Nat) (o : fv_C) (n : Nat) (f : fv_F) : fv_F := fun i => if i = a then some o else if a < i ∧ i < n then W i else f i
theorem stg_0 {W : fv_F} {a n : Nat} {o : fv_C} {f : fv_F} (h : f a = some o) (hn : a + 1 = n) : f = stg W a o n f := by
  funext i
  unfold stg
  by_cases e : i = a
  · rw [if_pos e, e, h]
  · rw [if_neg e, if_neg (by omega)]
theorem stg_1 {W : fv_F} {a n m : Nat} {o c : fv_C} {f : fv_F} (h : W n = some c) (ha : a < n) (hm : n + 1 = m) : fv_set (stg W a o n f) n c = stg W a o m f := by
  funext i
  by_cases e : i = n
  · rw [e, fv_set_self]
    unfold stg
    rw [if_neg (by omega), if_pos (by omega), h]
  · rw [fv_set_ne _ _ e]
    unfold stg
    by_cases e2 : i = a
    · rw [if_pos e2, if_pos e2]
    · rw [if_neg e2, if_neg e2]
      by_cases e3 : a < i ∧ i < n
      · rw [if_pos e3, if_pos (by omega)]
      · rw [if_neg e3, if_neg (by omega)]
theorem stg_2 {W : fv_F} {a n : Nat} {o o2 : fv_C} {f : fv_F} : fv_set (stg W a o n f) a o2 = stg W a o2 n f := by
  funext i
  by_cases e : i = a
  · rw [e, fv_set_self]
    exact (if_pos rfl).symm
  · rw [fv_set_ne _ _ e]
    unfold stg
    rw [if_neg e, if_neg e]
theorem stg_3 {W : fv_F} {a n b : Nat} {o c : fv_C} {f : fv_F} (ha : a < n) (hb : n < b) : fil W n b (fv_set (stg W a o n f) n c) = stg W a o b f := by
  funext i
  unfold fil
  by_cases e : n ≤ i ∧ i < b
  · rw [if_pos e]
    unfold stg
    rw [if_neg (by omega), if_pos (by omega)]
  · rw [if_neg e, fv_set_ne _ _ (by omega)]
    unfold stg
    by_cases e2 : i = a
    · rw [if_pos e2, if_pos e2]
    · rw [if_neg e2, if_neg e2]
      by_cases e3 : a < i ∧ i < n
      · rw [if_pos e3, if_pos (by omega)]
      · rw [if_neg e3, if_neg (by omega)]
theorem stg_4 {W : fv_F} {a b : Nat} {o : fv_C} {f : fv_F} (h : W a = some o) (hb : a < b) : stg W a o b f = fil W a b f := by
  funext i
  unfold stg fil
  by_cases e : i = a
  · rw [if_pos e, if_pos (by omega), e, h]
  · rw [if_neg e]
    by_cases e3 : a < i ∧ i < b
    · rw [if_pos e3, if_pos (by omega)]
    · rw [if_neg e3, if_neg (by omega)]
theorem stg_5 {W : fv_F} {a n : Nat} {o : fv_C} {f : fv_F} : stg W a o n f a = some o := if_pos rfl
section FST
variable {y : fv_Y} {d mc ms : Nat} {Q : Option Value → fv_F → Option Nat → Prop} {pc : Nat} {lv : fv_L} {st : List Value} {f : fv_F} {k t k1 t1 : Nat} {W : fv_F} {a n m : Nat} {o : fv_C}
theorem st_newI {len : Nat} (hd : decode y.2.1 pc = .ok (.newarray .int, 2)) (hw : Cond.arrayClass .int ∈ fv_tbl) (hl : len ≤ 67108864) (hk : k + 1 ≤ mc) (ht : t + len ≤ ms) (hW : W n = some (.inl (0, len, .inl (fun _ => 0)))) (ha : a < n) (hm : n + 1 = m) (hk1 : k + 1 = k1) (ht1 : t + len = t1) (kk : fv_At y d mc ms Q (pc + 2) lv (.ref n :: st) (stg W a o m f) (some m) k1 t1) : fv_At y d mc ms Q pc lv (.int (nI len) :: st) (stg W a o n f) (some n) k t := by
  subst hk1; subst ht1
  refine fx_newI hd hw hl hk ht ?_
  rw [stg_1 hW ha hm, hm]
  exact kk
theorem st_newJ {len : Nat} (hd : decode y.2.1 pc = .ok (.newarray .long, 2)) (hw : Cond.arrayClass .long ∈ fv_tbl) (hl : len ≤ 67108864) (hk : k + 1 ≤ mc) (ht : t + len ≤ ms) (hW : W n = some (.inl (1, len, .inr (.inl (fun _ => 0))))) (ha : a < n) (hm : n + 1 = m) (hk1 : k + 1 = k1) (ht1 : t + len = t1) (kk : fv_At y d mc ms Q (pc + 2) lv (.ref n :: st) (stg W a o m f) (some m) k1 t1) : fv_At y d mc ms Q pc lv (.int (nI len) :: st) (stg W a o n f) (some n) k t := by
  subst hk1; subst ht1
  refine fx_newJ hd hw hl hk ht ?_
  rw [stg_1 hW ha hm, hm]
  exact kk
theorem st_newZ {len : Nat} (hd : decode y.2.1 pc = .ok (.newarray .boolean, 2)) (hw : Cond.arrayClass .boolean ∈ fv_tbl) (hl : len ≤ 67108864) (hk : k + 1 ≤ mc) (ht : t + len ≤ ms) (hW : W n = some (.inl (2, len, .inl (fun _ => 0)))) (ha : a < n) (hm : n + 1 = m) (hk1 : k + 1 = k1) (ht1 : t + len = t1) (kk : fv_At y d mc ms Q (pc + 2) lv (.ref n :: st) (stg W a o m f) (some m) k1 t1) : fv_At y d mc ms Q pc lv (.int (nI len) :: st) (stg W a o n f) (some n) k t := by
  subst hk1; subst ht1
  refine fx_newZ hd hw hl hk ht ?_
  rw [stg_1 hW ha hm, hm]
  exact kk
theorem st_putF {al : Option Nat} {idx ci j : Nat} {ty : FieldType} {fs fs2 : List Value} {v : Value} (hd : decode y.2.1 pc = .ok (.putfield idx, 3)) (hp : fv_fd y.1.cls idx ci j true ty) (hin2 : y.1.name = "<init>") (hn : ∀ N, narrow ty (fv_v N v) = fv_v N v) (hfit : ∀ N, fits ty (fv_v N v) = true) (hj : j < fs.length) (hs : fs.set j v = fs2)
    (kk : fv_At y d mc ms Q (pc + 3) lv st (stg W a (.inr (ci, fs2)) n f) al k t) : fv_At y d mc ms Q pc lv (v :: .ref a :: st) (stg W a (.inr (ci, fs)) n f) al k t := by
  refine fx_putF hd hp hin2 stg_5 hn hfit hj ?_
  rw [stg_2, hs]
  exact kk
theorem st_putf {al : Option Nat} {idx ci j : Nat} {ty : FieldType} {fs fs2 : List Value} {v : Value} (hd : decode y.2.1 pc = .ok (.putfield idx, 3)) (hp : fv_fd y.1.cls idx ci j false ty) (hn : ∀ N, narrow ty (fv_v N v) = fv_v N v) (hfit : ∀ N, fits ty (fv_v N v) = true) (hj : j < fs.length) (hs : fs.set j v = fs2)
    (kk : fv_At y d mc ms Q (pc + 3) lv st (stg W a (.inr (ci, fs2)) n f) al k t) : fv_At y d mc ms Q pc lv (v :: .ref a :: st) (stg W a (.inr (ci, fs)) n f) al k t := by
  refine fx_putf hd hp stg_5 hn hfit hj ?_
  rw [stg_2, hs]
  exact kk
theorem st_new {idx ci nf : Nat} {C : String} {T : u_T} {ty0 : Nat → FieldType} {fs : List Value} {g : fv_F} (hd : decode y.2.1 pc = .ok (.new idx, 3)) (hc : fv_cls ci C T nf ty0) (hn : fv_nw y.1.cls idx C nf) (hfs : (∀ j, j < nf → defaultValue (ty0 j) = vp_V fs j) ∧ ∀ N, fs.map (fv_v N) = fs) (hk : k + 1 ≤ mc) (ht : t + nf ≤ ms) (hm : n + 1 = m) (hk1 : k + 1 = k1) (ht1 : t + nf = t1)
    (kk : fv_At y d mc ms Q (pc + 3) lv (.ref n :: st) (fv_set g n (.inr (ci, fs))) (some m) k1 t1) : fv_At y d mc ms Q pc lv st g (some n) k t := by
  subst hk1; subst ht1
  refine fx_new hd hc hn hfs.1 hfs.2 hk ht ?_
  rw [hm]
  exact kk
theorem st_callN {idx mc2 ms2 d2 b : Nat} {y2 : fv_Y} {c : fv_C} {rest : List Value} (hd : decode y.2.1 pc = .ok (.invokespecial idx, 3)) (hp : fv_mIN y.1.cls idx y2 0) (hM : fv_M y2 d2 mc2 ms2 [.ref n] (fv_set (stg W a o n f) n c) (some m) (qfil W n b (fv_set (stg W a o n f) n c))) (ha : a < n) (hb : n < b) (hdep : d2 < d) (hcat : (rest.map fun v => v.category).sum ≤ 8) (hmc : k + mc2 ≤ mc) (hms : t + ms2 ≤ ms) (hk1 : k + mc2 = k1) (ht1 : t + ms2 = t1)
    (kk : fv_At y d mc ms Q (pc + 3) lv rest (stg W a o b f) (some b) k1 t1) : fv_At y d mc ms Q pc lv (.ref n :: rest) (fv_set (stg W a o n f) n c) (some m) k t := by
  subst hk1; subst ht1
  refine fx_callIN (as := []) (rest := rest) hd hp hM rfl rfl hdep hcat hmc hms ?_
  rintro r f2 al2 ⟨rfl, rfl, rfl⟩
  rw [stg_3 ha hb]
  exact kk
theorem st_callI {idx mc2 ms2 d2 b : Nat} {y2 : fv_Y} {c : fv_C} {rest : List Value} (hd : decode y.2.1 pc = .ok (.invokespecial idx, 3)) (hp : fv_mI y.1.cls idx y2 0) (hM : fv_M y2 d2 mc2 ms2 [.ref n] (fv_set (stg W a o n f) n c) (some m) (qfil W n b (fv_set (stg W a o n f) n c))) (ha : a < n) (hb : n < b) (hdep : d2 < d) (hcat : (rest.map fun v => v.category).sum ≤ 8) (hmc : k + mc2 ≤ mc) (hms : t + ms2 ≤ ms) (hk1 : k + mc2 = k1) (ht1 : t + ms2 = t1)
    (kk : fv_At y d mc ms Q (pc + 3) lv rest (stg W a o b f) (some b) k1 t1) : fv_At y d mc ms Q pc lv (.ref n :: rest) (fv_set (stg W a o n f) n c) (some m) k t := by
  subst hk1; subst ht1
  refine fx_callI (as := []) (rest := rest) hd hp hM rfl rfl hdep hcat hmc hms ?_
  rintro r f2 al2 ⟨rfl, rfl, rfl⟩
  rw [stg_3 ha hb]
  exact kk
theorem st_ret (hd : decode y.2.1 pc = .ok (.return_, 1)) (hr : y.2.2.2 = none) (hk : k = mc) (ht : t = ms) (hQ : Q = qfil W a n f) (h : W a = some o) (hb : a < n) : fv_At y d mc ms Q pc lv [] (stg W a o n f) (some n) k t :=
  fx_vret hd hr hk ht (by rw [hQ]; exact ⟨rfl, rfl, stg_4 h hb⟩)
end FST
