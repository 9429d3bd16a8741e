theorem aI_w : Cond.arrayClass .int ∈ fv_tbl := fv_at 95 (by decide +kernel) (by decide +kernel)
theorem aJ_w : Cond.arrayClass .long ∈ fv_tbl := fv_at 93 (by decide +kernel) (by decide +kernel)
theorem aZ_w : Cond.arrayClass .boolean ∈ fv_tbl := fv_at 94 (by decide +kernel) (by decide +kernel)
theorem oj_2 : Cond.instanceMethod Lib.objectInit ∈ fv_tbl := fv_at 57 (by decide +kernel) (by decide +kernel)
theorem oj_3 : Cond.code Lib.objectInit ⟨#[0xb1]⟩ 1 none ∈ fv_tbl := fv_at 58 (by decide +kernel) (by decide +kernel)
theorem cl_P : Cond.classLink RX10 9 "MeetHouse$Polynomial" ∈ fv_tbl := fv_at 59 (by decide +kernel) (by decide +kernel)
theorem cl_L : Cond.classLink RX9 11 "MeetHouse$Line" ∈ fv_tbl := fv_at 185 (by decide +kernel) (by decide +kernel)
theorem oj_X0 : Cond.methodLink RX0 3 Lib.objectInit ∈ fv_tbl := fv_at 66 (by decide +kernel) (by decide +kernel)
theorem oj_X2 : Cond.methodLink RX2 3 Lib.objectInit ∈ fv_tbl := fv_at 129 (by decide +kernel) (by decide +kernel)
theorem oj_X4 : Cond.methodLink RX4 3 Lib.objectInit ∈ fv_tbl := fv_at 135 (by decide +kernel) (by decide +kernel)
theorem oj_X5 : Cond.methodLink RX5 1 Lib.objectInit ∈ fv_tbl := fv_at 191 (by decide +kernel) (by decide +kernel)
theorem oj_X7 : Cond.methodLink RX7 3 Lib.objectInit ∈ fv_tbl := fv_at 79 (by decide +kernel) (by decide +kernel)
theorem oj_X8 : Cond.methodLink RX8 3 Lib.objectInit ∈ fv_tbl := fv_at 72 (by decide +kernel) (by decide +kernel)
theorem oj_X9 : Cond.methodLink RX9 3 Lib.objectInit ∈ fv_tbl := fv_at 184 (by decide +kernel) (by decide +kernel)
theorem oj_X10 : Cond.methodLink RX10 1 Lib.objectInit ∈ fv_tbl := fv_at 56 (by decide +kernel) (by decide +kernel)
theorem oj_X11 : Cond.methodLink RX11 1 Lib.objectInit ∈ fv_tbl := fv_at 772 (by decide +kernel) (by decide +kernel)
theorem nw10_15 : fv_nw RX10 15 RX0 3 := ⟨fv_at 61 (by decide +kernel) (by decide +kernel), fv_at 62 (by decide +kernel) (by decide +kernel), fv_at 39 (by decide +kernel) (by decide +kernel)⟩
theorem nw10_22 : fv_nw RX10 22 RX2 8 := ⟨fv_at 124 (by decide +kernel) (by decide +kernel), fv_at 125 (by decide +kernel) (by decide +kernel), fv_at 42 (by decide +kernel) (by decide +kernel)⟩
theorem nw10_29 : fv_nw RX10 29 RX9 3 := ⟨fv_at 179 (by decide +kernel) (by decide +kernel), fv_at 180 (by decide +kernel) (by decide +kernel), fv_at 44 (by decide +kernel) (by decide +kernel)⟩
theorem nw10_9 : fv_nw RX10 9 RX7 4 := ⟨fv_at 59 (by decide +kernel) (by decide +kernel), fv_at 75 (by decide +kernel) (by decide +kernel), fv_at 41 (by decide +kernel) (by decide +kernel)⟩
theorem nw0_9 : fv_nw RX0 9 RX8 5 := ⟨fv_at 67 (by decide +kernel) (by decide +kernel), fv_at 68 (by decide +kernel) (by decide +kernel), fv_at 40 (by decide +kernel) (by decide +kernel)⟩
theorem nw0_18 : fv_nw RX0 18 RX7 4 := ⟨fv_at 112 (by decide +kernel) (by decide +kernel), fv_at 75 (by decide +kernel) (by decide +kernel), fv_at 41 (by decide +kernel) (by decide +kernel)⟩
theorem nw2_9 : fv_nw RX2 9 RX4 5 := ⟨fv_at 130 (by decide +kernel) (by decide +kernel), fv_at 131 (by decide +kernel) (by decide +kernel), fv_at 43 (by decide +kernel) (by decide +kernel)⟩
theorem nw8_20 : fv_nw RX8 20 RX7 4 := ⟨fv_at 74 (by decide +kernel) (by decide +kernel), fv_at 75 (by decide +kernel) (by decide +kernel), fv_at 41 (by decide +kernel) (by decide +kernel)⟩
theorem nw9_11 : fv_nw RX9 11 RX5 2 := ⟨fv_at 185 (by decide +kernel) (by decide +kernel), fv_at 187 (by decide +kernel) (by decide +kernel), fv_at 45 (by decide +kernel) (by decide +kernel)⟩
theorem nwL_7 : fv_nw RL 7 RX10 4 := ⟨fv_at 51 (by decide +kernel) (by decide +kernel), fv_at 52 (by decide +kernel) (by decide +kernel), fv_at 38 (by decide +kernel) (by decide +kernel)⟩
theorem nwL_10 : fv_nw RL 10 RX11 38 := ⟨fv_at 767 (by decide +kernel) (by decide +kernel), fv_at 768 (by decide +kernel) (by decide +kernel), fv_at 46 (by decide +kernel) (by decide +kernel)⟩
def dfX0 : List Value := [.null, .null, .null]
theorem dfX0_ok : (∀ j, j < 3 → defaultValue (tyX0 j) = vp_V dfX0 j) ∧ ∀ N, dfX0.map (fv_v N) = dfX0 := ⟨fun j hj => by
  match j, hj with
  | 0, _ => rfl
  | 1, _ => rfl
  | 2, _ => rfl
  , fun _ => rfl⟩
def dfX2 : List Value := [.null, .null, .null, .null, .null, .int 0, .int 0, .int 0]
theorem dfX2_ok : (∀ j, j < 8 → defaultValue (tyX2 j) = vp_V dfX2 j) ∧ ∀ N, dfX2.map (fv_v N) = dfX2 := ⟨fun j hj => by
  match j, hj with
  | 0, _ => rfl
  | 1, _ => rfl
  | 2, _ => rfl
  | 3, _ => rfl
  | 4, _ => rfl
  | 5, _ => rfl
  | 6, _ => rfl
  | 7, _ => rfl
  , fun _ => rfl⟩
def dfX4 : List Value := [.null, .null, .null, .null, .null]
theorem dfX4_ok : (∀ j, j < 5 → defaultValue (tyX4 j) = vp_V dfX4 j) ∧ ∀ N, dfX4.map (fv_v N) = dfX4 := ⟨fun j hj => by
  match j, hj with
  | 0, _ => rfl
  | 1, _ => rfl
  | 2, _ => rfl
  | 3, _ => rfl
  | 4, _ => rfl
  , fun _ => rfl⟩
def dfX5 : List Value := [.null, .int 0]
theorem dfX5_ok : (∀ j, j < 2 → defaultValue (tyX5 j) = vp_V dfX5 j) ∧ ∀ N, dfX5.map (fv_v N) = dfX5 := ⟨fun j hj => by
  match j, hj with
  | 0, _ => rfl
  | 1, _ => rfl
  , fun _ => rfl⟩
def dfX7 : List Value := [.null, .null, .int 0, .int 0]
theorem dfX7_ok : (∀ j, j < 4 → defaultValue (tyX7 j) = vp_V dfX7 j) ∧ ∀ N, dfX7.map (fv_v N) = dfX7 := ⟨fun j hj => by
  match j, hj with
  | 0, _ => rfl
  | 1, _ => rfl
  | 2, _ => rfl
  | 3, _ => rfl
  , fun _ => rfl⟩
def dfX8 : List Value := [.null, .null, .null, .int 0, .int 0]
theorem dfX8_ok : (∀ j, j < 5 → defaultValue (tyX8 j) = vp_V dfX8 j) ∧ ∀ N, dfX8.map (fv_v N) = dfX8 := ⟨fun j hj => by
  match j, hj with
  | 0, _ => rfl
  | 1, _ => rfl
  | 2, _ => rfl
  | 3, _ => rfl
  | 4, _ => rfl
  , fun _ => rfl⟩
def dfX9 : List Value := [.null, .null, .int 0]
theorem dfX9_ok : (∀ j, j < 3 → defaultValue (tyX9 j) = vp_V dfX9 j) ∧ ∀ N, dfX9.map (fv_v N) = dfX9 := ⟨fun j hj => by
  match j, hj with
  | 0, _ => rfl
  | 1, _ => rfl
  | 2, _ => rfl
  , fun _ => rfl⟩
def dfX10 : List Value := [.null, .null, .null, .null]
theorem dfX10_ok : (∀ j, j < 4 → defaultValue (tyX10 j) = vp_V dfX10 j) ∧ ∀ N, dfX10.map (fv_v N) = dfX10 := ⟨fun j hj => by
  match j, hj with
  | 0, _ => rfl
  | 1, _ => rfl
  | 2, _ => rfl
  | 3, _ => rfl
  , fun _ => rfl⟩
def dfX11 : List Value := [.null, .int 0, .null, .null, .null, .null, .null, .null, .null, .null, .null, .null, .null, .null, .null, .null, .null, .null, .null, .null, .int 0, .int 0, .int 0, .null, .null, .null, .null, .int 0, .null, .null, .null, .null, .null, .null, .null, .null, .int 0, .null]
theorem dfX11_ok : (∀ j, j < 38 → defaultValue (tyX11 j) = vp_V dfX11 j) ∧ ∀ N, dfX11.map (fv_v N) = dfX11 := ⟨fun j hj => by
  match j, hj with
  | 0, _ => rfl
  | 1, _ => rfl
  | 2, _ => rfl
  | 3, _ => rfl
  | 4, _ => rfl
  | 5, _ => rfl
  | 6, _ => rfl
  | 7, _ => rfl
  | 8, _ => rfl
  | 9, _ => rfl
  | 10, _ => rfl
  | 11, _ => rfl
  | 12, _ => rfl
  | 13, _ => rfl
  | 14, _ => rfl
  | 15, _ => rfl
  | 16, _ => rfl
  | 17, _ => rfl
  | 18, _ => rfl
  | 19, _ => rfl
  | 20, _ => rfl
  | 21, _ => rfl
  | 22, _ => rfl
  | 23, _ => rfl
  | 24, _ => rfl
  | 25, _ => rfl
  | 26, _ => rfl
  | 27, _ => rfl
  | 28, _ => rfl
  | 29, _ => rfl
  | 30, _ => rfl
  | 31, _ => rfl
  | 32, _ => rfl
  | 33, _ => rfl
  | 34, _ => rfl
  | 35, _ => rfl
  | 36, _ => rfl
  | 37, _ => rfl
  | j + 38, h => exact absurd h (by omega)
  , fun _ => rfl⟩
theorem wI_0 {T : fw_T} {G : Nat → Nat → Int32} {L : Nat → Nat → Int64} {i t n : Nat} {rs : List (Option Nat)} (h : T i = some (0, t, n, rs)) (hG : ∀ j, G i j = 0) : fw T G L i = some (.inl (t, n, .inl (fun _ => 0))) := by
  rw [fw_at h]; show some (Sum.inl (t, n, Sum.inl (G i)) : fv_C) = _; rw [show G i = fun _ => 0 from funext hG]
theorem wJ_0 {T : fw_T} {G : Nat → Nat → Int32} {L : Nat → Nat → Int64} {i t n : Nat} {rs : List (Option Nat)} (h : T i = some (1, t, n, rs)) (hL : ∀ j, L i j = 0) : fw T G L i = some (.inl (t, n, .inr (.inl (fun _ => 0)))) := by
  rw [fw_at h]; show some (Sum.inl (t, n, Sum.inr (Sum.inl (L i))) : fv_C) = _; rw [show L i = fun _ => 0 from funext hL]
set_option maxRecDepth 4000 in
theorem C7_init {G : Nat → Nat → Int32} {L : Nat → Nat → Int64} {p : Nat} (h0 : cT p = some (3, 4, 4, [some (p + 1), some (p + 2), none, none])) (h1 : cT (p + 1) = some (0, 0, 600, [])) (h2 : cT (p + 2) = some (0, 0, 600, [])) (g0 : ∀ j, G p j = 0) (g1 : ∀ j, G (p + 1) j = 0) (g2 : ∀ j, G (p + 2) j = 0) (f : fv_F) (hf : f p = some (.inr (4, dfX7))) : fv_M Y7_init 1 2 1200 [.ref (p)] f (some (p + 1)) (qfil (fw cT G L) (p) (p + 3) f) := by
  obtain ⟨Q, hQ⟩ : ∃ Q : Option Value → fv_F → Option Nat → Prop, Q = qfil (fw cT G L) (p) (p + 3) f := ⟨_, rfl⟩
  rw [← hQ]
  refine fv_enter rfl (Nat.le_of_ble_eq_true rfl) ?_
  refine fx_aload_n dX7_init_0 rfl rfl ?_
  refine fx_objI dX7_init_1 oj_X7 oj_2 oj_3 (by decide) (by decide) ?_
  rw [stg_0 (W := (fw cT G L)) (n := p + 1) hf rfl]
  refine fx_aload_n dX7_init_4 rfl rfl ?_
  refine fx_sipush dX7_init_5 (v := nI 600) (by decide) ?_
  refine st_newI dX7_init_8 aI_w (by decide) (by decide) (by decide) (wI_0 h1 g1) (by omega) rfl (k1 := 1) (t1 := 600) rfl rfl ?_
  refine st_putF dX7_init_10 fd7_9 rfl (fun _ => rfl) (fun _ => rfl) (Nat.le_of_ble_eq_true rfl) (fs2 := [.ref (p + 1), .null, .int 0, .int 0]) rfl ?_
  refine fx_aload_n dX7_init_13 rfl rfl ?_
  refine fx_sipush dX7_init_14 (v := nI 600) (by decide) ?_
  refine st_newI dX7_init_17 aI_w (by decide) (by decide) (by decide) (wI_0 h2 g2) (by omega) rfl (k1 := 2) (t1 := 1200) rfl rfl ?_
  refine st_putF dX7_init_19 fd7_15 rfl (fun _ => rfl) (fun _ => rfl) (Nat.le_of_ble_eq_true rfl) (fs2 := [.ref (p + 1), .ref (p + 2), .int 0, .int 0]) rfl ?_
  refine fx_aload_n dX7_init_22 rfl rfl ?_
  refine fx_iconst dX7_init_23 (v := nI 0) (by decide) ?_
  refine st_putf dX7_init_24 fd7_18 (fun _ => rfl) (fun _ => rfl) (Nat.le_of_ble_eq_true rfl) (fs2 := [.ref (p + 1), .ref (p + 2), .int (nI 0), .int 0]) rfl ?_
  refine fx_aload_n dX7_init_27 rfl rfl ?_
  refine fx_iconst dX7_init_28 (v := nI 0) (by decide) ?_
  refine st_putf dX7_init_29 fd7_22 (fun _ => rfl) (fun _ => rfl) (Nat.le_of_ble_eq_true rfl) (fs2 := [.ref (p + 1), .ref (p + 2), .int (nI 0), .int (nI 0)]) rfl ?_
  exact st_ret dX7_init_32 rfl rfl rfl hQ (by rw [fw_at h0]; show some (Sum.inr (4, ([.ref (p + 1), .ref (p + 2), .int (G p 2), .int (G p 3)] : List Value)) : fv_C) = _; rw [g0, g0]; rfl) (by omega)
set_option maxRecDepth 4000 in
theorem C5_init {G : Nat → Nat → Int32} {L : Nat → Nat → Int64} {p : Nat} (h0 : cT p = some (3, 3, 2, [some (p + 1), none])) (h1 : cT (p + 1) = some (0, 0, 6, [])) (g0 : ∀ j, G p j = 0) (g1 : ∀ j, G (p + 1) j = 0) (f : fv_F) (hf : f p = some (.inr (3, dfX5))) : fv_M Y5_init 1 1 6 [.ref (p)] f (some (p + 1)) (qfil (fw cT G L) (p) (p + 2) f) := by
  obtain ⟨Q, hQ⟩ : ∃ Q : Option Value → fv_F → Option Nat → Prop, Q = qfil (fw cT G L) (p) (p + 2) f := ⟨_, rfl⟩
  rw [← hQ]
  refine fv_enter rfl (Nat.le_of_ble_eq_true rfl) ?_
  refine fx_aload_n dX5_init_0 rfl rfl ?_
  refine fx_objI dX5_init_1 oj_X5 oj_2 oj_3 (by decide) (by decide) ?_
  rw [stg_0 (W := (fw cT G L)) (n := p + 1) hf rfl]
  refine fx_aload_n dX5_init_4 rfl rfl ?_
  refine fx_bipush dX5_init_5 (v := nI 6) (by decide) ?_
  refine st_newI dX5_init_7 aI_w (by decide) (by decide) (by decide) (wI_0 h1 g1) (by omega) rfl (k1 := 1) (t1 := 6) rfl rfl ?_
  refine st_putF dX5_init_9 fd5_9 rfl (fun _ => rfl) (fun _ => rfl) (Nat.le_of_ble_eq_true rfl) (fs2 := [.ref (p + 1), .int 0]) rfl ?_
  refine fx_aload_n dX5_init_12 rfl rfl ?_
  refine fx_iconst dX5_init_13 (v := nI 0) (by decide) ?_
  refine st_putf dX5_init_14 fd5_13 (fun _ => rfl) (fun _ => rfl) (Nat.le_of_ble_eq_true rfl) (fs2 := [.ref (p + 1), .int (nI 0)]) rfl ?_
  exact st_ret dX5_init_17 rfl rfl rfl hQ (by rw [fw_at h0]; show some (Sum.inr (3, ([.ref (p + 1), .int (G p 1)] : List Value)) : fv_C) = _; rw [g0]; rfl) (by omega)
def gC : Nat → Nat → Int32 := fun i j => if i = 15 ∧ (j = 5 ∨ j = 6) then nI 2 else if i = 31 ∧ j = 2 then nI 2 else 0
def lC : Nat → Nat → Int64 := fun _ _ => 0
theorem gC_0 {i : Nat} (h : i ≠ 15) (h2 : i ≠ 31) (j : Nat) : gC i j = 0 := by
  unfold gC; rw [if_neg (fun w => h w.1), if_neg (fun w => h2 w.1)]
set_option maxRecDepth 4000 in
theorem C8_init (f : fv_F) (hf : f 3 = some (.inr (5, dfX8))) : fv_M Y8_init 2 5 90982 [.ref 3] f (some 4) (qfil (fw cT gC lC) 3 9 f) := by
  obtain ⟨Q, hQ⟩ : ∃ Q : Option Value → fv_F → Option Nat → Prop, Q = qfil (fw cT gC lC) 3 9 f := ⟨_, rfl⟩
  rw [← hQ]
  refine fv_enter rfl (Nat.le_of_ble_eq_true rfl) ?_
  refine fx_aload_n dX8_init_0 rfl rfl ?_
  refine fx_objI dX8_init_1 oj_X8 oj_2 oj_3 (by decide) (by decide) ?_
  rw [stg_0 (W := (fw cT gC lC)) (n := 4) hf rfl]
  refine fx_aload_n dX8_init_4 rfl rfl ?_
  refine fx_ldc dX8_init_5 (v := nI 88889) (fv_at 73 (by decide +kernel) (by decide +kernel)) ?_
  refine st_newJ dX8_init_7 aJ_w (by decide) (by decide) (by decide) (wJ_0 (rs := []) (by decide +kernel) (fun _ => rfl)) (by omega) rfl (k1 := 1) (t1 := 88889) rfl rfl ?_
  refine st_putF dX8_init_9 fd8_10 rfl (fun _ => rfl) (fun _ => rfl) (Nat.le_of_ble_eq_true rfl) (fs2 := [.ref (4), .null, .null, .int 0, .int 0]) rfl ?_
  refine fx_aload_n dX8_init_12 rfl rfl ?_
  refine fx_sipush dX8_init_13 (v := nI 889) (by decide) ?_
  refine st_newZ dX8_init_16 aZ_w (by decide) (by decide) (by decide) (wI_0 (rs := []) (by decide +kernel) (gC_0 (by decide) (by decide))) (by omega) rfl (k1 := 2) (t1 := 89778) rfl rfl ?_
  refine st_putF dX8_init_18 fd8_16 rfl (fun _ => rfl) (fun _ => rfl) (Nat.le_of_ble_eq_true rfl) (fs2 := [.ref (4), .ref (5), .null, .int 0, .int 0]) rfl ?_
  refine fx_aload_n dX8_init_21 rfl rfl ?_
  refine st_new dX8_init_22 fv_c4 nw8_20 dfX7_ok (by decide) (by decide) (m := 7) rfl (k1 := 3) (t1 := 89782) rfl rfl ?_
  refine fx_dup dX8_init_25 rfl ?_
  refine st_callN dX8_init_26 lk8_22 (b := 9) (C7_init (by decide +kernel) (by decide +kernel) (by decide +kernel) (fun j => gC_0 (by decide) (by decide) j) (fun j => gC_0 (by decide) (by decide) j) (fun j => gC_0 (by decide) (by decide) j) _ (fv_set_self _ _ _)) (by omega) (by omega) (by decide) (by decide) (by decide) (by decide) (k1 := 5) (t1 := 90982) rfl rfl ?_
  refine st_putF dX8_init_29 fd8_23 rfl (fun _ => rfl) (fun _ => rfl) (Nat.le_of_ble_eq_true rfl) (fs2 := [.ref (4), .ref (5), .ref (6), .int 0, .int 0]) rfl ?_
  refine fx_aload_n dX8_init_32 rfl rfl ?_
  refine fx_iconst dX8_init_33 (v := nI 0) (by decide) ?_
  refine st_putf dX8_init_34 fd8_27 (fun _ => rfl) (fun _ => rfl) (Nat.le_of_ble_eq_true rfl) (fs2 := [.ref (4), .ref (5), .ref (6), .int (nI 0), .int 0]) rfl ?_
  refine fx_aload_n dX8_init_37 rfl rfl ?_
  refine fx_iconst dX8_init_38 (v := nI 0) (by decide) ?_
  refine st_putf dX8_init_39 fd8_31 (fun _ => rfl) (fun _ => rfl) (Nat.le_of_ble_eq_true rfl) (fs2 := [.ref (4), .ref (5), .ref (6), .int (nI 0), .int (nI 0)]) rfl ?_
  exact st_ret dX8_init_42 rfl rfl rfl hQ rfl (by omega)
set_option maxRecDepth 4000 in
theorem C0_init (f : fv_F) (hf : f 2 = some (.inr (0, dfX0))) : fv_M Y0_init 3 12 93395 [.ref 2] f (some 3) (qfil (fw cT gC lC) 2 15 f) := by
  obtain ⟨Q, hQ⟩ : ∃ Q : Option Value → fv_F → Option Nat → Prop, Q = qfil (fw cT gC lC) 2 15 f := ⟨_, rfl⟩
  rw [← hQ]
  refine fv_enter rfl (Nat.le_of_ble_eq_true rfl) ?_
  refine fx_aload_n dX0_init_0 rfl rfl ?_
  refine fx_objI dX0_init_1 oj_X0 oj_2 oj_3 (by decide) (by decide) ?_
  rw [stg_0 (W := (fw cT gC lC)) (n := 3) hf rfl]
  refine fx_aload_n dX0_init_4 rfl rfl ?_
  refine st_new dX0_init_5 fv_c5 nw0_9 dfX8_ok (by decide) (by decide) (m := 4) rfl (k1 := 1) (t1 := 5) rfl rfl ?_
  refine fx_dup dX0_init_8 rfl ?_
  refine st_callN dX0_init_9 lk0_11 (b := 9) (C8_init _ (fv_set_self _ _ _)) (by omega) (by omega) (by decide) (by decide) (by decide) (by decide) (k1 := 6) (t1 := 90987) rfl rfl ?_
  refine st_putF dX0_init_12 fd0_12 rfl (fun _ => rfl) (fun _ => rfl) (Nat.le_of_ble_eq_true rfl) (fs2 := [.ref (3), .null, .null]) rfl ?_
  refine fx_aload_n dX0_init_15 rfl rfl ?_
  refine st_new dX0_init_16 fv_c4 nw0_18 dfX7_ok (by decide) (by decide) (m := 10) rfl (k1 := 7) (t1 := 90991) rfl rfl ?_
  refine fx_dup dX0_init_19 rfl ?_
  refine st_callN dX0_init_20 lk0_20 (b := 12) (C7_init (by decide +kernel) (by decide +kernel) (by decide +kernel) (fun j => gC_0 (by decide) (by decide) j) (fun j => gC_0 (by decide) (by decide) j) (fun j => gC_0 (by decide) (by decide) j) _ (fv_set_self _ _ _)) (by omega) (by omega) (by decide) (by decide) (by decide) (by decide) (k1 := 9) (t1 := 92191) rfl rfl ?_
  refine st_putF dX0_init_23 fd0_21 rfl (fun _ => rfl) (fun _ => rfl) (Nat.le_of_ble_eq_true rfl) (fs2 := [.ref (3), .ref (9), .null]) rfl ?_
  refine fx_aload_n dX0_init_26 rfl rfl ?_
  refine st_new dX0_init_27 fv_c4 nw0_18 dfX7_ok (by decide) (by decide) (m := 13) rfl (k1 := 10) (t1 := 92195) rfl rfl ?_
  refine fx_dup dX0_init_30 rfl ?_
  refine st_callN dX0_init_31 lk0_20 (b := 15) (C7_init (by decide +kernel) (by decide +kernel) (by decide +kernel) (fun j => gC_0 (by decide) (by decide) j) (fun j => gC_0 (by decide) (by decide) j) (fun j => gC_0 (by decide) (by decide) j) _ (fv_set_self _ _ _)) (by omega) (by omega) (by decide) (by decide) (by decide) (by decide) (k1 := 12) (t1 := 93395) rfl rfl ?_
  refine st_putF dX0_init_34 fd0_25 rfl (fun _ => rfl) (fun _ => rfl) (Nat.le_of_ble_eq_true rfl) (fs2 := [.ref (3), .ref (9), .ref (12)]) rfl ?_
  exact st_ret dX0_init_37 rfl rfl rfl hQ rfl (by omega)
