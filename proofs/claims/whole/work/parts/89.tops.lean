theorem mn_cl : Cond.classLink RX4 24 "[[I" ∈ fv_tbl := fv_at 136 (by decide +kernel) (by decide +kernel)
set_option maxRecDepth 4000 in
theorem C4_init (f : fv_F) (hf : f 16 = some (.inr (2, dfX4))) : fo_M Y4_init 1 10 50 [.ref 16] f (some 17) (qfil (fw cT gC lC) 16 27 f) := by
  obtain ⟨Q, hQ⟩ : ∃ Q : Option Value → fv_F → Option Nat → Prop, Q = qfil (fw cT gC lC) 16 27 f := ⟨_, rfl⟩
  rw [← hQ]
  refine fo_enter rfl (Nat.le_of_ble_eq_true rfl) ?_
  refine fo_aload_n dX4_init_0 rfl rfl ?_
  refine fo_objI dX4_init_1 oj_X4 oj_2 oj_3 (by decide) (by decide) ?_
  rw [stg_0 (W := (fw cT gC lC)) (n := 17) hf rfl]
  refine fo_aload_n dX4_init_4 rfl rfl ?_
  refine fo_iconst dX4_init_5 (v := nI 5) (by decide) ?_
  refine so_newI dX4_init_6 aI_w (by decide) (by decide) (by decide) (wI_0 (rs := []) (by decide +kernel) (gC_0 (by decide) (by decide))) (by omega) rfl (k1 := 1) (t1 := 5) rfl rfl ?_
  refine so_putF dX4_init_8 fd4_9 rfl (fun _ => rfl) (fun _ => rfl) (Nat.le_of_ble_eq_true rfl) (fs2 := [.ref (17), .null, .null, .null, .null]) rfl ?_
  refine fo_aload_n dX4_init_11 rfl rfl ?_
  refine fo_iconst dX4_init_12 (v := nI 5) (by decide) ?_
  refine so_newI dX4_init_13 aI_w (by decide) (by decide) (by decide) (wI_0 (rs := []) (by decide +kernel) (gC_0 (by decide) (by decide))) (by omega) rfl (k1 := 2) (t1 := 10) rfl rfl ?_
  refine so_putF dX4_init_15 fd4_15 rfl (fun _ => rfl) (fun _ => rfl) (Nat.le_of_ble_eq_true rfl) (fs2 := [.ref (17), .ref (18), .null, .null, .null]) rfl ?_
  refine fo_aload_n dX4_init_18 rfl rfl ?_
  refine fo_iconst dX4_init_19 (v := nI 5) (by decide) ?_
  refine so_newI dX4_init_20 aI_w (by decide) (by decide) (by decide) (wI_0 (rs := []) (by decide +kernel) (gC_0 (by decide) (by decide))) (by omega) rfl (k1 := 3) (t1 := 15) rfl rfl ?_
  refine so_putF dX4_init_22 fd4_18 rfl (fun _ => rfl) (fun _ => rfl) (Nat.le_of_ble_eq_true rfl) (fs2 := [.ref (17), .ref (18), .ref (19), .null, .null]) rfl ?_
  refine fo_aload_n dX4_init_25 rfl rfl ?_
  refine fo_iconst dX4_init_26 (v := nI 5) (by decide) ?_
  refine so_newI dX4_init_27 aI_w (by decide) (by decide) (by decide) (wI_0 (rs := []) (by decide +kernel) (gC_0 (by decide) (by decide))) (by omega) rfl (k1 := 4) (t1 := 20) rfl rfl ?_
  refine so_putF dX4_init_29 fd4_21 rfl (fun _ => rfl) (fun _ => rfl) (Nat.le_of_ble_eq_true rfl) (fs2 := [.ref (17), .ref (18), .ref (19), .ref (20), .null]) rfl ?_
  refine fo_aload_n dX4_init_32 rfl rfl ?_
  refine fo_iconst dX4_init_33 (v := nI 5) (by decide) ?_
  refine fo_iconst dX4_init_34 (v := nI 5) (by decide) ?_
  refine so_mna dX4_init_35 mn_cl (W := (fw cT gC lC)) rfl (fun q => ?_) (fun i hi => ?_) (by omega) (m := 27) rfl (by decide) (by decide) (k1 := 10) (t1 := 50) rfl rfl ?_
  · match q with
    | 0 => rfl
    | 1 => rfl
    | 2 => rfl
    | 3 => rfl
    | 4 => rfl
    | j + 5 => rfl
  · match i, hi with
    | 0, _ => exact wI_0 (rs := []) (by decide +kernel) (gC_0 (by decide) (by decide))
    | 1, _ => exact wI_0 (rs := []) (by decide +kernel) (gC_0 (by decide) (by decide))
    | 2, _ => exact wI_0 (rs := []) (by decide +kernel) (gC_0 (by decide) (by decide))
    | 3, _ => exact wI_0 (rs := []) (by decide +kernel) (gC_0 (by decide) (by decide))
    | 4, _ => exact wI_0 (rs := []) (by decide +kernel) (gC_0 (by decide) (by decide))
  refine so_putF dX4_init_39 fd4_26 rfl (fun _ => rfl) (fun _ => rfl) (Nat.le_of_ble_eq_true rfl) (fs2 := [.ref (17), .ref (18), .ref (19), .ref (20), .ref (21)]) rfl ?_
  exact so_ret dX4_init_42 rfl rfl rfl hQ rfl (by omega)
set_option maxRecDepth 4000 in
theorem C2_init (f : fv_F) (hf : f 15 = some (.inr (1, dfX2))) : fo_M Y2_init 2 15 281 [.ref 15] f (some 16) (qfil (fw cT gC lC) 15 31 f) := by
  obtain ⟨Q, hQ⟩ : ∃ Q : Option Value → fv_F → Option Nat → Prop, Q = qfil (fw cT gC lC) 15 31 f := ⟨_, rfl⟩
  rw [← hQ]
  refine fo_enter rfl (Nat.le_of_ble_eq_true rfl) ?_
  refine fo_aload_n dX2_init_0 rfl rfl ?_
  refine fo_objI dX2_init_1 oj_X2 oj_2 oj_3 (by decide) (by decide) ?_
  rw [stg_0 (W := (fw cT gC lC)) (n := 16) hf rfl]
  refine fo_aload_n dX2_init_4 rfl rfl ?_
  refine so_new dX2_init_5 fv_c2 nw2_9 dfX4_ok (by decide) (by decide) (m := 17) rfl (k1 := 1) (t1 := 5) rfl rfl ?_
  refine fo_dup dX2_init_8 rfl ?_
  refine so_callN dX2_init_9 lk2_11 (b := 27) (C4_init _ (fv_set_self _ _ _)) (by omega) (by omega) (by decide) (by decide) (by decide) (by decide) (k1 := 11) (t1 := 55) rfl rfl ?_
  refine so_putF dX2_init_12 fd2_12 rfl (fun _ => rfl) (fun _ => rfl) (Nat.le_of_ble_eq_true rfl) (fs2 := [.ref (16), .null, .null, .null, .null, .int 0, .int 0, .int 0]) rfl ?_
  refine fo_aload_n dX2_init_15 rfl rfl ?_
  refine fo_bipush dX2_init_16 (v := nI 16) (by decide) ?_
  refine so_newI dX2_init_18 aI_w (by decide) (by decide) (by decide) (wI_0 (rs := []) (by decide +kernel) (gC_0 (by decide) (by decide))) (by omega) rfl (k1 := 12) (t1 := 71) rfl rfl ?_
  refine so_putF dX2_init_20 fd2_18 rfl (fun _ => rfl) (fun _ => rfl) (Nat.le_of_ble_eq_true rfl) (fs2 := [.ref (16), .ref (27), .null, .null, .null, .int 0, .int 0, .int 0]) rfl ?_
  refine fo_aload_n dX2_init_23 rfl rfl ?_
  refine fo_bipush dX2_init_24 (v := nI 70) (by decide) ?_
  refine so_newI dX2_init_26 aI_w (by decide) (by decide) (by decide) (wI_0 (rs := []) (by decide +kernel) (gC_0 (by decide) (by decide))) (by omega) rfl (k1 := 13) (t1 := 141) rfl rfl ?_
  refine so_putF dX2_init_28 fd2_22 rfl (fun _ => rfl) (fun _ => rfl) (Nat.le_of_ble_eq_true rfl) (fs2 := [.ref (16), .ref (27), .ref (28), .null, .null, .int 0, .int 0, .int 0]) rfl ?_
  refine fo_aload_n dX2_init_31 rfl rfl ?_
  refine fo_bipush dX2_init_32 (v := nI 70) (by decide) ?_
  refine so_newJ dX2_init_34 aJ_w (by decide) (by decide) (by decide) (wJ_0 (rs := []) (by decide +kernel) (fun _ => rfl)) (by omega) rfl (k1 := 14) (t1 := 211) rfl rfl ?_
  refine so_putF dX2_init_36 fd2_25 rfl (fun _ => rfl) (fun _ => rfl) (Nat.le_of_ble_eq_true rfl) (fs2 := [.ref (16), .ref (27), .ref (28), .ref (29), .null, .int 0, .int 0, .int 0]) rfl ?_
  refine fo_aload_n dX2_init_39 rfl rfl ?_
  refine fo_bipush dX2_init_40 (v := nI 70) (by decide) ?_
  refine so_newJ dX2_init_42 aJ_w (by decide) (by decide) (by decide) (wJ_0 (rs := []) (by decide +kernel) (fun _ => rfl)) (by omega) rfl (k1 := 15) (t1 := 281) rfl rfl ?_
  refine so_putF dX2_init_44 fd2_29 rfl (fun _ => rfl) (fun _ => rfl) (Nat.le_of_ble_eq_true rfl) (fs2 := [.ref (16), .ref (27), .ref (28), .ref (29), .ref (30), .int 0, .int 0, .int 0]) rfl ?_
  refine fo_aload_n dX2_init_47 rfl rfl ?_
  refine fo_iconst dX2_init_48 (v := nI 2) (by decide) ?_
  refine so_putf dX2_init_49 fd2_32 (fun _ => rfl) (fun _ => rfl) (Nat.le_of_ble_eq_true rfl) (fs2 := [.ref (16), .ref (27), .ref (28), .ref (29), .ref (30), .int (nI 2), .int 0, .int 0]) rfl ?_
  refine fo_aload_n dX2_init_52 rfl rfl ?_
  refine fo_iconst dX2_init_53 (v := nI 2) (by decide) ?_
  refine so_putf dX2_init_54 fd2_36 (fun _ => rfl) (fun _ => rfl) (Nat.le_of_ble_eq_true rfl) (fs2 := [.ref (16), .ref (27), .ref (28), .ref (29), .ref (30), .int (nI 2), .int (nI 2), .int 0]) rfl ?_
  refine fo_aload_n dX2_init_57 rfl rfl ?_
  refine fo_iconst dX2_init_58 (v := nI 0) (by decide) ?_
  refine so_putf dX2_init_59 fd2_39 (fun _ => rfl) (fun _ => rfl) (Nat.le_of_ble_eq_true rfl) (fs2 := [.ref (16), .ref (27), .ref (28), .ref (29), .ref (30), .int (nI 2), .int (nI 2), .int (nI 0)]) rfl ?_
  exact so_ret dX2_init_62 rfl rfl rfl hQ rfl (by omega)
theorem stg_6 {W : fv_F} {a b n : Nat} {o o2 c : fv_C} {f : fv_F} (h : a < b) : fv_set (stg W b c n (fv_set f a o)) a o2 = stg W b c n (fv_set f a o2) := by
  funext i
  by_cases e : i = a
  · rw [e, fv_set_self]
    unfold stg
    rw [if_neg (by omega), if_neg (by omega), fv_set_self]
  · rw [fv_set_ne _ _ e]
    unfold stg
    rw [fv_set_ne _ _ e, fv_set_ne _ _ e]
theorem stg_7 {W : fv_F} {a b n : Nat} {o c : fv_C} {f : fv_F} (h : a < b) : stg W b c n (fv_set f a o) a = some o := by
  unfold stg
  rw [if_neg (by omega), if_neg (by omega), fv_set_self]
theorem stg_8 {W : fv_F} {a b m : Nat} {o c : fv_C} {f : fv_F} (h : W a = some o) (h1 : W b = some c) (hb : a + 1 = b) (hm : b < m) : stg W b c m (fv_set f a o) = fil W a m f := by
  funext i
  unfold stg fil
  by_cases e : i = b
  · rw [if_pos e, if_pos (by omega), e, h1]
  · rw [if_neg e]
    by_cases e2 : b < i ∧ i < m
    · rw [if_pos e2, if_pos (by omega)]
    · rw [if_neg e2]
      by_cases e3 : i = a
      · rw [e3, fv_set_self, if_pos (by omega), h]
      · rw [fv_set_ne _ _ e3, if_neg (by omega)]
theorem stg_9 {W : fv_F} {a b n : Nat} {o c : fv_C} {f : fv_F} (h : f a = some o) (hb : a + 1 = b) (hn : b + 1 = n) : fv_set f b c = stg W b c n (fv_set f a o) := by
  funext i
  unfold stg
  by_cases e : i = b
  · rw [if_pos e, e, fv_set_self]
  · rw [if_neg e, fv_set_ne _ _ e, if_neg (by omega)]
    by_cases e3 : i = a
    · rw [e3, fv_set_self, h]
    · rw [fv_set_ne _ _ e3]
section FOB
variable {y : fv_Y} {d mc ms : Nat} {Q : Option Value → fv_F → Option Nat → Prop} {pc : Nat} {lv : fv_L} {st : List Value} {f : fv_F} {al : Option Nat} {k t : Nat} {W : fv_F} {a b n : Nat} {c : fv_C}
theorem so_putFB {idx ci j : Nat} {ty : FieldType} {fs fs2 : List Value} {v : Value} (hd : decode y.2.1 pc = .ok (.putfield idx, 3)) (hp : fv_fd y.1.cls idx ci j true ty) (hin2 : y.1.name = "<init>") (hn : ∀ N, narrow ty (fv_v N v) = fv_v N v) (hfit : ∀ N, fits ty (fv_v N v) = true) (hj : j < fs.length) (hs : fs.set j v = fs2) (hab : a < b)
    (kk : fo_At y d mc ms Q (pc + 3) lv st (stg W b c n (fv_set f a (.inr (ci, fs2)))) al k t) : fo_At y d mc ms Q pc lv (v :: .ref a :: st) (stg W b c n (fv_set f a (.inr (ci, fs)))) al k t := by
  refine fo_putF hd hp hin2 (stg_7 hab) hn hfit hj ?_
  rw [stg_6 hab, hs]
  exact kk
theorem so_putfB {idx ci j : Nat} {ty : FieldType} {fs fs2 : List Value} {v : Value} (hd : decode y.2.1 pc = .ok (.putfield idx, 3)) (hp : fv_fd y.1.cls idx ci j false ty) (hn : ∀ N, narrow ty (fv_v N v) = fv_v N v) (hfit : ∀ N, fits ty (fv_v N v) = true) (hj : j < fs.length) (hs : fs.set j v = fs2) (hab : a < b)
    (kk : fo_At y d mc ms Q (pc + 3) lv st (stg W b c n (fv_set f a (.inr (ci, fs2)))) al k t) : fo_At y d mc ms Q pc lv (v :: .ref a :: st) (stg W b c n (fv_set f a (.inr (ci, fs)))) al k t := by
  refine fo_putf hd hp (stg_7 hab) hn hfit hj ?_
  rw [stg_6 hab, hs]
  exact kk
end FOB
/-- a row of references, the first s of them made, every w places from b0 on -/
def arS (ta len b0 w s : Nat) : fv_C := .inl (ta, len, .inr (.inr (.inr (.inr (fun j => if j < s then some (b0 + w * j) else none)))))
theorem arS_u (b0 w s : Nat) : va_up (fun j => if j < s then some (b0 + w * j) else none) s (some (b0 + w * s)) = (fun j => if j < s + 1 then some (b0 + w * j) else none) := by
  funext j
  unfold va_up
  by_cases e : j = s
  · subst e
    rw [if_pos rfl, if_pos (Nat.lt_succ_self _)]
  · rw [if_neg e]
    show (if j < s then some (b0 + w * j) else none) = _
    by_cases e2 : j < s
    · rw [if_pos e2, if_pos (by omega)]
    · rw [if_neg e2, if_neg (by omega)]
theorem arS_0 (ta len b0 w : Nat) : arS ta len b0 w 0 = .inl (ta, len, .inr (.inr (.inr (.inr (fun _ => none))))) := by
  unfold arS
  congr 6
theorem cT_sh : ∀ s, s < 12 → cT (51 + 3 * s) = some (3, 4, 4, [some (51 + 3 * s + 1), some (51 + 3 * s + 2), none, none]) ∧ cT (51 + 3 * s + 1) = some (0, 0, 600, []) ∧ cT (51 + 3 * s + 2) = some (0, 0, 600, []) := by
  intro s hs
  match s, hs with
  | 0, _ => exact ⟨rfl, rfl, rfl⟩
  | 1, _ => exact ⟨rfl, rfl, rfl⟩
  | 2, _ => exact ⟨rfl, rfl, rfl⟩
  | 3, _ => exact ⟨rfl, rfl, rfl⟩
  | 4, _ => exact ⟨rfl, rfl, rfl⟩
  | 5, _ => exact ⟨rfl, rfl, rfl⟩
  | 6, _ => exact ⟨rfl, rfl, rfl⟩
  | 7, _ => exact ⟨rfl, rfl, rfl⟩
  | 8, _ => exact ⟨rfl, rfl, rfl⟩
  | 9, _ => exact ⟨rfl, rfl, rfl⟩
  | 10, _ => exact ⟨rfl, rfl, rfl⟩
  | 11, _ => exact ⟨rfl, rfl, rfl⟩
theorem cT_rd : ∀ s, s < 8 → cT (35 + 2 * s) = some (3, 3, 2, [some (35 + 2 * s + 1), none]) ∧ cT (35 + 2 * s + 1) = some (0, 0, 6, []) := by
  intro s hs
  match s, hs with
  | 0, _ => exact ⟨rfl, rfl⟩
  | 1, _ => exact ⟨rfl, rfl⟩
  | 2, _ => exact ⟨rfl, rfl⟩
  | 3, _ => exact ⟨rfl, rfl⟩
  | 4, _ => exact ⟨rfl, rfl⟩
  | 5, _ => exact ⟨rfl, rfl⟩
  | 6, _ => exact ⟨rfl, rfl⟩
  | 7, _ => exact ⟨rfl, rfl⟩
theorem cW_1 : fw cT gC lC 1 = some (arS 3 12 51 3 12) := by
  rw [fw_at (show cT 1 = some (2, 3, 12, (cTl.getD 1 (0, 0, 0, [])).2.2.2) from rfl)]
  unfold arS
  refine congrArg (fun g : Nat → Option Nat => (some (Sum.inl (3, 12, Sum.inr (Sum.inr (Sum.inr (Sum.inr g)))) : fv_C))) (a₁ := fun j => ((cTl.getD 1 (0, 0, 0, [])).2.2.2).getD j none) (funext fun j => ?_)
  have h : ∀ j, j < 12 → ((cTl.getD 1 (0, 0, 0, [])).2.2.2).getD j none = some (51 + 3 * j) := by decide +kernel
  by_cases q : j < 12
  · rw [if_pos q, h j q]
  · rw [if_neg q, List.getD_eq_getElem?_getD, List.getElem?_eq_none (by show 12 ≤ j; omega)]; rfl
theorem cW_32 : fw cT gC lC 32 = some (arS 4 8 35 2 8) := by
  rw [fw_at (show cT 32 = some (2, 4, 8, (cTl.getD 32 (0, 0, 0, [])).2.2.2) from rfl)]
  unfold arS
  refine congrArg (fun g : Nat → Option Nat => (some (Sum.inl (4, 8, Sum.inr (Sum.inr (Sum.inr (Sum.inr g)))) : fv_C))) (a₁ := fun j => ((cTl.getD 32 (0, 0, 0, [])).2.2.2).getD j none) (funext fun j => ?_)
  have h : ∀ j, j < 8 → ((cTl.getD 32 (0, 0, 0, [])).2.2.2).getD j none = some (35 + 2 * j) := by decide +kernel
  by_cases q : j < 8
  · rw [if_pos q, h j q]
  · rw [if_neg q, List.getD_eq_getElem?_getD, List.getElem?_eq_none (by show 8 ≤ j; omega)]; rfl
theorem nI_s (s : Nat) : nI s + Int32.ofInt 1 = nI (s + 1) := (nI_succ s).symm
set_option maxRecDepth 4000 in
theorem C9_init (f : fv_F) (hf : f 31 = some (.inr (6, dfX9))) : fo_M Y9_init 2 19 80 [.ref 31] f (some 32) (qfil (fw cT gC lC) 31 51 f) := by
  obtain ⟨Q, hQ⟩ : ∃ Q : Option Value → fv_F → Option Nat → Prop, Q = qfil (fw cT gC lC) 31 51 f := ⟨_, rfl⟩
  rw [← hQ]
  refine fo_enter rfl (Nat.le_of_ble_eq_true rfl) ?_
  refine fo_aload_n dX9_init_0 rfl rfl ?_
  refine fo_objI dX9_init_1 oj_X9 oj_2 oj_3 (by decide) (by decide) ?_
  refine fo_aload_n dX9_init_4 rfl rfl ?_
  refine fo_bipush dX9_init_5 (v := nI 8) (by decide) ?_
  refine fo_anew dX9_init_7 cl_L (fun _ h => h.2.1) (ta := 4) (fun _ => rfl) (by decide) (by decide) (by decide) ?_
  rw [stg_9 (W := (fw cT gC lC)) (n := 33) hf rfl rfl, ← arS_0 4 8 35 2]
  refine so_putFB dX9_init_10 fd9_13 rfl (fun _ => rfl) (fun _ => rfl) (Nat.le_of_ble_eq_true rfl) (fs2 := [.ref 32, .null, .int 0]) rfl (by omega) ?_
  refine fo_aload_n dX9_init_13 rfl rfl ?_
  refine so_new dX9_init_14 fv_c3 nw9_11 dfX5_ok (by decide) (by decide) (m := 34) rfl (k1 := 2) (t1 := 10) rfl rfl ?_
  refine fo_dup dX9_init_17 rfl ?_
  refine so_callN dX9_init_18 lk9_17 (b := 35) (fo_of (C5_init (by decide +kernel) (by decide +kernel) (fun j => gC_0 (by decide) (by decide) j) (fun j => gC_0 (by decide) (by decide) j) _ (fv_set_self _ _ _))) (by omega) (by omega) (by decide) (by decide) (by decide) (by decide) (k1 := 3) (t1 := 16) rfl rfl ?_
  refine so_putFB dX9_init_21 fd9_18 rfl (fun _ => rfl) (fun _ => rfl) (Nat.le_of_ble_eq_true rfl) (fs2 := [.ref 32, .ref 33, .int 0]) rfl (by omega) ?_
  refine fo_aload_n dX9_init_24 rfl rfl ?_
  refine fo_iconst dX9_init_25 (v := nI 2) (by decide) ?_
  refine so_putfB dX9_init_26 fd9_22 (fun _ => rfl) (fun _ => rfl) (Nat.le_of_ble_eq_true rfl) (fs2 := [.ref 32, .ref 33, .int (nI 2)]) rfl (by omega) ?_
  refine fo_iconst dX9_init_29 (v := nI 0) (by decide) ?_
  refine fo_istore_n dX9_init_30 rfl (by decide) rfl ?_
  have L : ∀ kk s, s + kk = 8 → fo_At Y9_init 2 19 80 Q 31 [(0, .ref 31), (1, .int (nI s))] [] (stg (fw cT gC lC) 32 (arS 4 8 35 2 s) (35 + 2 * s) (fv_set f 31 (.inr (6, [.ref 32, .ref 33, .int (nI 2)])))) (some (35 + 2 * s)) (3 + 2 * s) (16 + 8 * s) := by
    intro kk
    induction kk with
    | zero =>
      intro s hs
      have e : s = 8 := by omega
      subst e
      refine fo_iload_n dX9_init_31 rfl rfl ?_
      refine fo_bipush dX9_init_32 (v := nI 8) (by decide) ?_
      refine fo_icmp_ge dX9_init_34 (tgt := 56) (by decide) (fun _ => ?_) (fun h => absurd (by decide) h)
      rw [stg_8 (o := .inr (6, [.ref 32, .ref 33, .int (nI 2)])) (m := 35 + 2 * 8) rfl cW_32 rfl (by omega)]
      exact fo_vret dX9_init_56 rfl rfl rfl (by rw [hQ]; exact ⟨rfl, rfl, rfl⟩)
    | succ kk ih =>
      intro s hs
      have hs8 : s < 8 := by omega
      refine fo_iload_n dX9_init_31 rfl rfl ?_
      refine fo_bipush dX9_init_32 (v := nI 8) (by decide) ?_
      refine fo_icmp_ge dX9_init_34 (tgt := 56) (by decide) (fun h => absurd h (nI_ge hs8 (by decide))) (fun _ => ?_)
      refine fo_aload_n dX9_init_37 rfl rfl ?_
      refine fo_getf dX9_init_38 fd9_13 (stg_7 (by omega)) (v := .ref 32) rfl ?_
      refine fo_iload_n dX9_init_41 rfl rfl ?_
      refine so_new dX9_init_42 fv_c3 nw9_11 dfX5_ok (by omega) (by omega) (m := 35 + 2 * s + 1) rfl rfl rfl ?_
      refine fo_dup dX9_init_45 rfl ?_
      refine so_callN dX9_init_46 lk9_17 (b := 35 + 2 * (s + 1)) (fo_of (C5_init (cT_rd s hs8).1 (cT_rd s hs8).2 (gC_0 (by omega) (by omega)) (gC_0 (by omega) (by omega)) _ (fv_set_self _ _ _))) (by omega) (by omega) (by decide) (Nat.le_of_ble_eq_true rfl) (by omega) (by omega) (k1 := 3 + 2 * (s + 1)) (t1 := 16 + 8 * (s + 1)) (by omega) (by omega) ?_
      refine fo_aast dX9_init_49 (ta := 4) (n := 8) (j := s) stg_5 (fun _ => rfl) (by unfold stg; rw [if_neg (by omega), if_pos (by omega)]; exact (fw_at (cT_rd s hs8).1)) fv_c3 rfl (by omega) (by decide) ?_
      rw [stg_2, arS_u]
      refine fo_iinc dX9_init_50 (x := nI s) (v := nI (s + 1)) rfl (nI_s s) (by decide) rfl ?_
      refine fo_goto dX9_init_53 (tgt := 31) (by decide) ?_
      exact ih (s + 1) (by omega)
  exact L 8 0 rfl
set_option maxRecDepth 4000 in
theorem C10_init (f : fv_F) (hf : f 0 = some (.inr (7, dfX10))) : fo_M Y10_init 4 86 108230 [.ref 0] f (some 1) (qfil (fw cT gC lC) 0 87 f) := by
  obtain ⟨Q, hQ⟩ : ∃ Q : Option Value → fv_F → Option Nat → Prop, Q = qfil (fw cT gC lC) 0 87 f := ⟨_, rfl⟩
  rw [← hQ]
  refine fo_enter rfl (Nat.le_of_ble_eq_true rfl) ?_
  refine fo_aload_n dX10_init_0 rfl rfl ?_
  refine fo_objI dX10_init_1 oj_X10 oj_2 oj_3 (by decide) (by decide) ?_
  refine fo_aload_n dX10_init_4 rfl rfl ?_
  refine fo_bipush dX10_init_5 (v := nI 12) (by decide) ?_
  refine fo_anew dX10_init_7 cl_P (fun _ h => h.1) (ta := 3) (fun _ => rfl) (by decide) (by decide) (by decide) ?_
  rw [stg_9 (W := (fw cT gC lC)) (n := 2) hf rfl rfl, ← arS_0 3 12 51 3]
  refine so_putFB dX10_init_10 fd10_11 rfl (fun _ => rfl) (fun _ => rfl) (Nat.le_of_ble_eq_true rfl) (fs2 := [.ref 1, .null, .null, .null]) rfl (by omega) ?_
  refine fo_aload_n dX10_init_13 rfl rfl ?_
  refine so_new dX10_init_14 fv_c0 nw10_15 dfX0_ok (by decide) (by decide) (m := 3) rfl (k1 := 2) (t1 := 15) rfl rfl ?_
  refine fo_dup dX10_init_17 rfl ?_
  refine so_callN dX10_init_18 lk10_17 (b := 15) (fo_of (C0_init _ (fv_set_self _ _ _))) (by omega) (by omega) (by decide) (by decide) (by decide) (by decide) (k1 := 14) (t1 := 93410) rfl rfl ?_
  refine so_putFB dX10_init_21 fd10_18 rfl (fun _ => rfl) (fun _ => rfl) (Nat.le_of_ble_eq_true rfl) (fs2 := [.ref 1, .ref 2, .null, .null]) rfl (by omega) ?_
  refine fo_aload_n dX10_init_24 rfl rfl ?_
  refine so_new dX10_init_25 fv_c1 nw10_22 dfX2_ok (by decide) (by decide) (m := 16) rfl (k1 := 15) (t1 := 93418) rfl rfl ?_
  refine fo_dup dX10_init_28 rfl ?_
  refine so_callN dX10_init_29 lk10_24 (b := 31) (C2_init _ (fv_set_self _ _ _)) (by omega) (by omega) (by decide) (by decide) (by decide) (by decide) (k1 := 30) (t1 := 93699) rfl rfl ?_
  refine so_putFB dX10_init_32 fd10_25 rfl (fun _ => rfl) (fun _ => rfl) (Nat.le_of_ble_eq_true rfl) (fs2 := [.ref 1, .ref 2, .ref 15, .null]) rfl (by omega) ?_
  refine fo_aload_n dX10_init_35 rfl rfl ?_
  refine so_new dX10_init_36 fv_c6 nw10_29 dfX9_ok (by decide) (by decide) (m := 32) rfl (k1 := 31) (t1 := 93702) rfl rfl ?_
  refine fo_dup dX10_init_39 rfl ?_
  refine so_callI dX10_init_40 lk10_31 (b := 51) (C9_init _ (fv_set_self _ _ _)) (by omega) (by omega) (by decide) (by decide) (by decide) (by decide) (k1 := 50) (t1 := 93782) rfl rfl ?_
  refine so_putFB dX10_init_43 fd10_32 rfl (fun _ => rfl) (fun _ => rfl) (Nat.le_of_ble_eq_true rfl) (fs2 := [.ref 1, .ref 2, .ref 15, .ref 31]) rfl (by omega) ?_
  refine fo_iconst dX10_init_46 (v := nI 0) (by decide) ?_
  refine fo_istore_n dX10_init_47 rfl (by decide) rfl ?_
  have L : ∀ kk s, s + kk = 12 → fo_At Y10_init 4 86 108230 Q 48 [(0, .ref 0), (1, .int (nI s))] [] (stg (fw cT gC lC) 1 (arS 3 12 51 3 s) (51 + 3 * s) (fv_set f 0 (.inr (7, [.ref 1, .ref 2, .ref 15, .ref 31])))) (some (51 + 3 * s)) (50 + 3 * s) (93782 + 1204 * s) := by
    intro kk
    induction kk with
    | zero =>
      intro s hs
      have e : s = 12 := by omega
      subst e
      refine fo_iload_n dX10_init_48 rfl rfl ?_
      refine fo_bipush dX10_init_49 (v := nI 12) (by decide) ?_
      refine fo_icmp_ge dX10_init_51 (tgt := 73) (by decide) (fun _ => ?_) (fun h => absurd (by decide) h)
      rw [stg_8 (o := .inr (7, [.ref 1, .ref 2, .ref 15, .ref 31])) (m := 51 + 3 * 12) rfl cW_1 rfl (by omega)]
      exact fo_vret dX10_init_73 rfl rfl rfl (by rw [hQ]; exact ⟨rfl, rfl, rfl⟩)
    | succ kk ih =>
      intro s hs
      have hs12 : s < 12 := by omega
      refine fo_iload_n dX10_init_48 rfl rfl ?_
      refine fo_bipush dX10_init_49 (v := nI 12) (by decide) ?_
      refine fo_icmp_ge dX10_init_51 (tgt := 73) (by decide) (fun h => absurd h (nI_ge hs12 (by decide))) (fun _ => ?_)
      refine fo_aload_n dX10_init_54 rfl rfl ?_
      refine fo_getf dX10_init_55 fd10_11 (stg_7 (by omega)) (v := .ref 1) rfl ?_
      refine fo_iload_n dX10_init_58 rfl rfl ?_
      refine so_new dX10_init_59 fv_c4 nw10_9 dfX7_ok (by omega) (by omega) (m := 51 + 3 * s + 1) rfl rfl rfl ?_
      refine fo_dup dX10_init_62 rfl ?_
      refine so_callN dX10_init_63 lk10_36 (b := 51 + 3 * (s + 1)) (fo_of (C7_init (cT_sh s hs12).1 (cT_sh s hs12).2.1 (cT_sh s hs12).2.2 (gC_0 (by omega) (by omega)) (gC_0 (by omega) (by omega)) (gC_0 (by omega) (by omega)) _ (fv_set_self _ _ _))) (by omega) (by omega) (by decide) (Nat.le_of_ble_eq_true rfl) (by omega) (by omega) (k1 := 50 + 3 * (s + 1)) (t1 := 93782 + 1204 * (s + 1)) (by omega) (by omega) ?_
      refine fo_aast dX10_init_66 (ta := 3) (n := 12) (j := s) stg_5 (fun _ => rfl) (by unfold stg; rw [if_neg (by omega), if_pos (by omega)]; exact (fw_at (cT_sh s hs12).1)) fv_c4 rfl (by omega) (by decide) ?_
      rw [stg_2, arS_u]
      refine fo_iinc dX10_init_67 (x := nI s) (v := nI (s + 1)) rfl (nI_s s) (by decide) rfl ?_
      refine fo_goto dX10_init_70 (tgt := 48) (by decide) ?_
      exact ih (s + 1) (by omega)
  exact L 12 0 rfl
