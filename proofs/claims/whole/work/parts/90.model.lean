def gM : Nat → Nat → Int32 := fun i j => if i = 0 ∧ (j = 20 ∨ j = 21 ∨ j = 27) then nI 2 else 0
def lM : Nat → Nat → Int64 := fun _ _ => 0
theorem gM_0 {i : Nat} (h : i ≠ 0) (j : Nat) : gM i j = 0 := by
  unfold gM; rw [if_neg (fun w => h w.1)]
theorem fv_drop {y : fv_Y} {d mc ms : Nat} {Q : Option Value → fv_F → Option Nat → Prop} {pc : Nat} {lv : fv_L} {st : List Value} {f : fv_F} {al : Option Nat} {k t : Nat} (kk : fv_At y d mc ms Q pc lv st f none k t) : fv_At y d mc ms Q pc lv st f al k t :=
  fun p l e s m args below meth c D dA N A G H locs ls hR hS _ hl => kk p l e s m args below meth c D dA N A G H locs ls hR hS (fun _ h => by cases h) hl
set_option maxRecDepth 4000 in
set_option maxHeartbeats 2000000 in
theorem C11_init (f : fv_F) (hf : f 0 = some (.inr (8, dfX11))) (hf0 : ∀ i, i ≠ 0 → f i = none) : fv_M Y11_init 2 32 256140 [.ref 0] f (some 1) (fun r2 f2 al2 => ∃ G2 : Nat → Nat → Int32, r2 = none ∧ f2 = fw mT G2 lM ∧ al2 = none ∧ (∀ i, i ≠ 29 → i ≠ 30 → G2 i = gM i) ∧ msq G2 2) := by
  obtain ⟨Q, hQ⟩ : ∃ Q : Option Value → fv_F → Option Nat → Prop, Q = (fun r2 f2 al2 => ∃ G2 : Nat → Nat → Int32, r2 = none ∧ f2 = fw mT G2 lM ∧ al2 = none ∧ (∀ i, i ≠ 29 → i ≠ 30 → G2 i = gM i) ∧ msq G2 2) := ⟨_, rfl⟩
  rw [← hQ]
  refine fv_enter rfl (Nat.le_of_ble_eq_true rfl) ?_
  refine fx_aload_n dX11_init_0 rfl rfl ?_
  refine fx_objI dX11_init_1 oj_X11 oj_2 oj_3 (by decide) (by decide) ?_
  rw [stg_0 (W := (fw mT gM lM)) (n := 1) hf rfl]
  refine fx_aload_n dX11_init_4 rfl rfl ?_
  refine fx_bipush dX11_init_5 (v := nI 6) (by decide) ?_
  refine st_newI dX11_init_7 aI_w (by decide) (by decide) (by decide) (wI_0 (T := mT) (rs := []) (by decide +kernel) (gM_0 (by decide))) (by omega) rfl (k1 := 1) (t1 := 6) rfl rfl ?_
  refine st_putF dX11_init_9 fd11_7 rfl (fun _ => rfl) (fun _ => rfl) (Nat.le_of_ble_eq_true rfl) (fs2 := [.ref (1), .int 0, .null, .null, .null, .null, .null, .null, .null, .null, .null, .null, .null, .null, .null, .null, .null, .null, .null, .null, .int 0, .int 0, .int 0, .null, .null, .null, .null, .int 0, .null, .null, .null, .null, .null, .null, .null, .null, .int 0, .null]) rfl ?_
  refine fx_aload_n dX11_init_12 rfl rfl ?_
  refine fx_bipush dX11_init_13 (v := nI 16) (by decide) ?_
  refine st_newI dX11_init_15 aI_w (by decide) (by decide) (by decide) (wI_0 (T := mT) (rs := []) (by decide +kernel) (gM_0 (by decide))) (by omega) rfl (k1 := 2) (t1 := 22) rfl rfl ?_
  refine st_putF dX11_init_17 fd11_13 rfl (fun _ => rfl) (fun _ => rfl) (Nat.le_of_ble_eq_true rfl) (fs2 := [.ref (1), .int 0, .ref (2), .null, .null, .null, .null, .null, .null, .null, .null, .null, .null, .null, .null, .null, .null, .null, .null, .null, .int 0, .int 0, .int 0, .null, .null, .null, .null, .int 0, .null, .null, .null, .null, .null, .null, .null, .null, .int 0, .null]) rfl ?_
  refine fx_aload_n dX11_init_20 rfl rfl ?_
  refine fx_bipush dX11_init_21 (v := nI 12) (by decide) ?_
  refine st_newZ dX11_init_23 aZ_w (by decide) (by decide) (by decide) (wI_0 (T := mT) (rs := []) (by decide +kernel) (gM_0 (by decide))) (by omega) rfl (k1 := 3) (t1 := 34) rfl rfl ?_
  refine st_putF dX11_init_25 fd11_16 rfl (fun _ => rfl) (fun _ => rfl) (Nat.le_of_ble_eq_true rfl) (fs2 := [.ref (1), .int 0, .ref (2), .ref (3), .null, .null, .null, .null, .null, .null, .null, .null, .null, .null, .null, .null, .null, .null, .null, .null, .int 0, .int 0, .int 0, .null, .null, .null, .null, .int 0, .null, .null, .null, .null, .null, .null, .null, .null, .int 0, .null]) rfl ?_
  refine fx_aload_n dX11_init_28 rfl rfl ?_
  refine fx_bipush dX11_init_29 (v := nI 12) (by decide) ?_
  refine st_newI dX11_init_31 aI_w (by decide) (by decide) (by decide) (wI_0 (T := mT) (rs := []) (by decide +kernel) (gM_0 (by decide))) (by omega) rfl (k1 := 4) (t1 := 46) rfl rfl ?_
  refine st_putF dX11_init_33 fd11_20 rfl (fun _ => rfl) (fun _ => rfl) (Nat.le_of_ble_eq_true rfl) (fs2 := [.ref (1), .int 0, .ref (2), .ref (3), .ref (4), .null, .null, .null, .null, .null, .null, .null, .null, .null, .null, .null, .null, .null, .null, .null, .int 0, .int 0, .int 0, .null, .null, .null, .null, .int 0, .null, .null, .null, .null, .null, .null, .null, .null, .int 0, .null]) rfl ?_
  refine fx_aload_n dX11_init_36 rfl rfl ?_
  refine fx_sipush dX11_init_37 (v := nI 7200) (by decide) ?_
  refine st_newI dX11_init_40 aI_w (by decide) (by decide) (by decide) (wI_0 (T := mT) (rs := []) (by decide +kernel) (gM_0 (by decide))) (by omega) rfl (k1 := 5) (t1 := 7246) rfl rfl ?_
  refine st_putF dX11_init_42 fd11_23 rfl (fun _ => rfl) (fun _ => rfl) (Nat.le_of_ble_eq_true rfl) (fs2 := [.ref (1), .int 0, .ref (2), .ref (3), .ref (4), .ref (5), .null, .null, .null, .null, .null, .null, .null, .null, .null, .null, .null, .null, .null, .null, .int 0, .int 0, .int 0, .null, .null, .null, .null, .int 0, .null, .null, .null, .null, .null, .null, .null, .null, .int 0, .null]) rfl ?_
  refine fx_aload_n dX11_init_45 rfl rfl ?_
  refine fx_sipush dX11_init_46 (v := nI 7200) (by decide) ?_
  refine st_newJ dX11_init_49 aJ_w (by decide) (by decide) (by decide) (wJ_0 (T := mT) (rs := []) (by decide +kernel) (fun _ => rfl)) (by omega) rfl (k1 := 6) (t1 := 14446) rfl rfl ?_
  refine st_putF dX11_init_51 fd11_26 rfl (fun _ => rfl) (fun _ => rfl) (Nat.le_of_ble_eq_true rfl) (fs2 := [.ref (1), .int 0, .ref (2), .ref (3), .ref (4), .ref (5), .ref (6), .null, .null, .null, .null, .null, .null, .null, .null, .null, .null, .null, .null, .null, .int 0, .int 0, .int 0, .null, .null, .null, .null, .int 0, .null, .null, .null, .null, .null, .null, .null, .null, .int 0, .null]) rfl ?_
  refine fx_aload_n dX11_init_54 rfl rfl ?_
  refine fx_ldc dX11_init_55 (v := nI 59049) (fv_at 773 (by decide +kernel) (by decide +kernel)) ?_
  refine st_newJ dX11_init_57 aJ_w (by decide) (by decide) (by decide) (wJ_0 (T := mT) (rs := []) (by decide +kernel) (fun _ => rfl)) (by omega) rfl (k1 := 7) (t1 := 73495) rfl rfl ?_
  refine st_putF dX11_init_59 fd11_31 rfl (fun _ => rfl) (fun _ => rfl) (Nat.le_of_ble_eq_true rfl) (fs2 := [.ref (1), .int 0, .ref (2), .ref (3), .ref (4), .ref (5), .ref (6), .ref (7), .null, .null, .null, .null, .null, .null, .null, .null, .null, .null, .null, .null, .int 0, .int 0, .int 0, .null, .null, .null, .null, .int 0, .null, .null, .null, .null, .null, .null, .null, .null, .int 0, .null]) rfl ?_
  refine fx_aload_n dX11_init_62 rfl rfl ?_
  refine fx_ldc dX11_init_63 (v := nI 59049) (fv_at 773 (by decide +kernel) (by decide +kernel)) ?_
  refine st_newJ dX11_init_65 aJ_w (by decide) (by decide) (by decide) (wJ_0 (T := mT) (rs := []) (by decide +kernel) (fun _ => rfl)) (by omega) rfl (k1 := 8) (t1 := 132544) rfl rfl ?_
  refine st_putF dX11_init_67 fd11_34 rfl (fun _ => rfl) (fun _ => rfl) (Nat.le_of_ble_eq_true rfl) (fs2 := [.ref (1), .int 0, .ref (2), .ref (3), .ref (4), .ref (5), .ref (6), .ref (7), .ref (8), .null, .null, .null, .null, .null, .null, .null, .null, .null, .null, .null, .int 0, .int 0, .int 0, .null, .null, .null, .null, .int 0, .null, .null, .null, .null, .null, .null, .null, .null, .int 0, .null]) rfl ?_
  refine fx_aload_n dX11_init_70 rfl rfl ?_
  refine fx_bipush dX11_init_71 (v := nI 10) (by decide) ?_
  refine st_newI dX11_init_73 aI_w (by decide) (by decide) (by decide) (wI_0 (T := mT) (rs := []) (by decide +kernel) (gM_0 (by decide))) (by omega) rfl (k1 := 9) (t1 := 132554) rfl rfl ?_
  refine st_putF dX11_init_75 fd11_37 rfl (fun _ => rfl) (fun _ => rfl) (Nat.le_of_ble_eq_true rfl) (fs2 := [.ref (1), .int 0, .ref (2), .ref (3), .ref (4), .ref (5), .ref (6), .ref (7), .ref (8), .ref (9), .null, .null, .null, .null, .null, .null, .null, .null, .null, .null, .int 0, .int 0, .int 0, .null, .null, .null, .null, .int 0, .null, .null, .null, .null, .null, .null, .null, .null, .int 0, .null]) rfl ?_
  refine fx_aload_n dX11_init_78 rfl rfl ?_
  refine fx_ldc dX11_init_79 (v := nI 59049) (fv_at 773 (by decide +kernel) (by decide +kernel)) ?_
  refine st_newJ dX11_init_81 aJ_w (by decide) (by decide) (by decide) (wJ_0 (T := mT) (rs := []) (by decide +kernel) (fun _ => rfl)) (by omega) rfl (k1 := 10) (t1 := 191603) rfl rfl ?_
  refine st_putF dX11_init_83 fd11_40 rfl (fun _ => rfl) (fun _ => rfl) (Nat.le_of_ble_eq_true rfl) (fs2 := [.ref (1), .int 0, .ref (2), .ref (3), .ref (4), .ref (5), .ref (6), .ref (7), .ref (8), .ref (9), .ref (10), .null, .null, .null, .null, .null, .null, .null, .null, .null, .int 0, .int 0, .int 0, .null, .null, .null, .null, .int 0, .null, .null, .null, .null, .null, .null, .null, .null, .int 0, .null]) rfl ?_
  refine fx_aload_n dX11_init_86 rfl rfl ?_
  refine fx_ldc dX11_init_87 (v := nI 59049) (fv_at 773 (by decide +kernel) (by decide +kernel)) ?_
  refine st_newJ dX11_init_89 aJ_w (by decide) (by decide) (by decide) (wJ_0 (T := mT) (rs := []) (by decide +kernel) (fun _ => rfl)) (by omega) rfl (k1 := 11) (t1 := 250652) rfl rfl ?_
  refine st_putF dX11_init_91 fd11_43 rfl (fun _ => rfl) (fun _ => rfl) (Nat.le_of_ble_eq_true rfl) (fs2 := [.ref (1), .int 0, .ref (2), .ref (3), .ref (4), .ref (5), .ref (6), .ref (7), .ref (8), .ref (9), .ref (10), .ref (11), .null, .null, .null, .null, .null, .null, .null, .null, .int 0, .int 0, .int 0, .null, .null, .null, .null, .int 0, .null, .null, .null, .null, .null, .null, .null, .null, .int 0, .null]) rfl ?_
  refine fx_aload_n dX11_init_94 rfl rfl ?_
  refine fx_iconst dX11_init_95 (v := nI 4) (by decide) ?_
  refine st_newI dX11_init_96 aI_w (by decide) (by decide) (by decide) (wI_0 (T := mT) (rs := []) (by decide +kernel) (gM_0 (by decide))) (by omega) rfl (k1 := 12) (t1 := 250656) rfl rfl ?_
  refine st_putF dX11_init_98 fd11_46 rfl (fun _ => rfl) (fun _ => rfl) (Nat.le_of_ble_eq_true rfl) (fs2 := [.ref (1), .int 0, .ref (2), .ref (3), .ref (4), .ref (5), .ref (6), .ref (7), .ref (8), .ref (9), .ref (10), .ref (11), .ref (12), .null, .null, .null, .null, .null, .null, .null, .int 0, .int 0, .int 0, .null, .null, .null, .null, .int 0, .null, .null, .null, .null, .null, .null, .null, .null, .int 0, .null]) rfl ?_
  refine fx_aload_n dX11_init_101 rfl rfl ?_
  refine fx_iconst dX11_init_102 (v := nI 4) (by decide) ?_
  refine st_newI dX11_init_103 aI_w (by decide) (by decide) (by decide) (wI_0 (T := mT) (rs := []) (by decide +kernel) (gM_0 (by decide))) (by omega) rfl (k1 := 13) (t1 := 250660) rfl rfl ?_
  refine st_putF dX11_init_105 fd11_49 rfl (fun _ => rfl) (fun _ => rfl) (Nat.le_of_ble_eq_true rfl) (fs2 := [.ref (1), .int 0, .ref (2), .ref (3), .ref (4), .ref (5), .ref (6), .ref (7), .ref (8), .ref (9), .ref (10), .ref (11), .ref (12), .ref (13), .null, .null, .null, .null, .null, .null, .int 0, .int 0, .int 0, .null, .null, .null, .null, .int 0, .null, .null, .null, .null, .null, .null, .null, .null, .int 0, .null]) rfl ?_
  refine fx_aload_n dX11_init_108 rfl rfl ?_
  refine fx_iconst dX11_init_109 (v := nI 4) (by decide) ?_
  refine st_newI dX11_init_110 aI_w (by decide) (by decide) (by decide) (wI_0 (T := mT) (rs := []) (by decide +kernel) (gM_0 (by decide))) (by omega) rfl (k1 := 14) (t1 := 250664) rfl rfl ?_
  refine st_putF dX11_init_112 fd11_52 rfl (fun _ => rfl) (fun _ => rfl) (Nat.le_of_ble_eq_true rfl) (fs2 := [.ref (1), .int 0, .ref (2), .ref (3), .ref (4), .ref (5), .ref (6), .ref (7), .ref (8), .ref (9), .ref (10), .ref (11), .ref (12), .ref (13), .ref (14), .null, .null, .null, .null, .null, .int 0, .int 0, .int 0, .null, .null, .null, .null, .int 0, .null, .null, .null, .null, .null, .null, .null, .null, .int 0, .null]) rfl ?_
  refine fx_aload_n dX11_init_115 rfl rfl ?_
  refine fx_bipush dX11_init_116 (v := nI 16) (by decide) ?_
  refine st_newI dX11_init_118 aI_w (by decide) (by decide) (by decide) (wI_0 (T := mT) (rs := []) (by decide +kernel) (gM_0 (by decide))) (by omega) rfl (k1 := 15) (t1 := 250680) rfl rfl ?_
  refine st_putF dX11_init_120 fd11_55 rfl (fun _ => rfl) (fun _ => rfl) (Nat.le_of_ble_eq_true rfl) (fs2 := [.ref (1), .int 0, .ref (2), .ref (3), .ref (4), .ref (5), .ref (6), .ref (7), .ref (8), .ref (9), .ref (10), .ref (11), .ref (12), .ref (13), .ref (14), .ref (15), .null, .null, .null, .null, .int 0, .int 0, .int 0, .null, .null, .null, .null, .int 0, .null, .null, .null, .null, .null, .null, .null, .null, .int 0, .null]) rfl ?_
  refine fx_aload_n dX11_init_123 rfl rfl ?_
  refine fx_bipush dX11_init_124 (v := nI 16) (by decide) ?_
  refine st_newI dX11_init_126 aI_w (by decide) (by decide) (by decide) (wI_0 (T := mT) (rs := []) (by decide +kernel) (gM_0 (by decide))) (by omega) rfl (k1 := 16) (t1 := 250696) rfl rfl ?_
  refine st_putF dX11_init_128 fd11_58 rfl (fun _ => rfl) (fun _ => rfl) (Nat.le_of_ble_eq_true rfl) (fs2 := [.ref (1), .int 0, .ref (2), .ref (3), .ref (4), .ref (5), .ref (6), .ref (7), .ref (8), .ref (9), .ref (10), .ref (11), .ref (12), .ref (13), .ref (14), .ref (15), .ref (16), .null, .null, .null, .int 0, .int 0, .int 0, .null, .null, .null, .null, .int 0, .null, .null, .null, .null, .null, .null, .null, .null, .int 0, .null]) rfl ?_
  refine fx_aload_n dX11_init_131 rfl rfl ?_
  refine fx_bipush dX11_init_132 (v := nI 16) (by decide) ?_
  refine st_newI dX11_init_134 aI_w (by decide) (by decide) (by decide) (wI_0 (T := mT) (rs := []) (by decide +kernel) (gM_0 (by decide))) (by omega) rfl (k1 := 17) (t1 := 250712) rfl rfl ?_
  refine st_putF dX11_init_136 fd11_61 rfl (fun _ => rfl) (fun _ => rfl) (Nat.le_of_ble_eq_true rfl) (fs2 := [.ref (1), .int 0, .ref (2), .ref (3), .ref (4), .ref (5), .ref (6), .ref (7), .ref (8), .ref (9), .ref (10), .ref (11), .ref (12), .ref (13), .ref (14), .ref (15), .ref (16), .ref (17), .null, .null, .int 0, .int 0, .int 0, .null, .null, .null, .null, .int 0, .null, .null, .null, .null, .null, .null, .null, .null, .int 0, .null]) rfl ?_
  refine fx_aload_n dX11_init_139 rfl rfl ?_
  refine fx_bipush dX11_init_140 (v := nI 16) (by decide) ?_
  refine st_newI dX11_init_142 aI_w (by decide) (by decide) (by decide) (wI_0 (T := mT) (rs := []) (by decide +kernel) (gM_0 (by decide))) (by omega) rfl (k1 := 18) (t1 := 250728) rfl rfl ?_
  refine st_putF dX11_init_144 fd11_64 rfl (fun _ => rfl) (fun _ => rfl) (Nat.le_of_ble_eq_true rfl) (fs2 := [.ref (1), .int 0, .ref (2), .ref (3), .ref (4), .ref (5), .ref (6), .ref (7), .ref (8), .ref (9), .ref (10), .ref (11), .ref (12), .ref (13), .ref (14), .ref (15), .ref (16), .ref (17), .ref (18), .null, .int 0, .int 0, .int 0, .null, .null, .null, .null, .int 0, .null, .null, .null, .null, .null, .null, .null, .null, .int 0, .null]) rfl ?_
  refine fx_aload_n dX11_init_147 rfl rfl ?_
  refine fx_bipush dX11_init_148 (v := nI 6) (by decide) ?_
  refine st_newI dX11_init_150 aI_w (by decide) (by decide) (by decide) (wI_0 (T := mT) (rs := []) (by decide +kernel) (gM_0 (by decide))) (by omega) rfl (k1 := 19) (t1 := 250734) rfl rfl ?_
  refine st_putF dX11_init_152 fd11_67 rfl (fun _ => rfl) (fun _ => rfl) (Nat.le_of_ble_eq_true rfl) (fs2 := [.ref (1), .int 0, .ref (2), .ref (3), .ref (4), .ref (5), .ref (6), .ref (7), .ref (8), .ref (9), .ref (10), .ref (11), .ref (12), .ref (13), .ref (14), .ref (15), .ref (16), .ref (17), .ref (18), .ref (19), .int 0, .int 0, .int 0, .null, .null, .null, .null, .int 0, .null, .null, .null, .null, .null, .null, .null, .null, .int 0, .null]) rfl ?_
  refine fx_aload_n dX11_init_155 rfl rfl ?_
  refine fx_bipush dX11_init_156 (v := nI 16) (by decide) ?_
  refine st_newI dX11_init_158 aI_w (by decide) (by decide) (by decide) (wI_0 (T := mT) (rs := []) (by decide +kernel) (gM_0 (by decide))) (by omega) rfl (k1 := 20) (t1 := 250750) rfl rfl ?_
  refine st_putF dX11_init_160 fd11_70 rfl (fun _ => rfl) (fun _ => rfl) (Nat.le_of_ble_eq_true rfl) (fs2 := [.ref (1), .int 0, .ref (2), .ref (3), .ref (4), .ref (5), .ref (6), .ref (7), .ref (8), .ref (9), .ref (10), .ref (11), .ref (12), .ref (13), .ref (14), .ref (15), .ref (16), .ref (17), .ref (18), .ref (19), .int 0, .int 0, .int 0, .ref (20), .null, .null, .null, .int 0, .null, .null, .null, .null, .null, .null, .null, .null, .int 0, .null]) rfl ?_
  refine fx_aload_n dX11_init_163 rfl rfl ?_
  refine fx_bipush dX11_init_164 (v := nI 70) (by decide) ?_
  refine st_newI dX11_init_166 aI_w (by decide) (by decide) (by decide) (wI_0 (T := mT) (rs := []) (by decide +kernel) (gM_0 (by decide))) (by omega) rfl (k1 := 21) (t1 := 250820) rfl rfl ?_
  refine st_putF dX11_init_168 fd11_73 rfl (fun _ => rfl) (fun _ => rfl) (Nat.le_of_ble_eq_true rfl) (fs2 := [.ref (1), .int 0, .ref (2), .ref (3), .ref (4), .ref (5), .ref (6), .ref (7), .ref (8), .ref (9), .ref (10), .ref (11), .ref (12), .ref (13), .ref (14), .ref (15), .ref (16), .ref (17), .ref (18), .ref (19), .int 0, .int 0, .int 0, .ref (20), .ref (21), .null, .null, .int 0, .null, .null, .null, .null, .null, .null, .null, .null, .int 0, .null]) rfl ?_
  refine fx_aload_n dX11_init_171 rfl rfl ?_
  refine fx_bipush dX11_init_172 (v := nI 70) (by decide) ?_
  refine st_newJ dX11_init_174 aJ_w (by decide) (by decide) (by decide) (wJ_0 (T := mT) (rs := []) (by decide +kernel) (fun _ => rfl)) (by omega) rfl (k1 := 22) (t1 := 250890) rfl rfl ?_
  refine st_putF dX11_init_176 fd11_76 rfl (fun _ => rfl) (fun _ => rfl) (Nat.le_of_ble_eq_true rfl) (fs2 := [.ref (1), .int 0, .ref (2), .ref (3), .ref (4), .ref (5), .ref (6), .ref (7), .ref (8), .ref (9), .ref (10), .ref (11), .ref (12), .ref (13), .ref (14), .ref (15), .ref (16), .ref (17), .ref (18), .ref (19), .int 0, .int 0, .int 0, .ref (20), .ref (21), .ref (22), .null, .int 0, .null, .null, .null, .null, .null, .null, .null, .null, .int 0, .null]) rfl ?_
  refine fx_aload_n dX11_init_179 rfl rfl ?_
  refine fx_bipush dX11_init_180 (v := nI 70) (by decide) ?_
  refine st_newJ dX11_init_182 aJ_w (by decide) (by decide) (by decide) (wJ_0 (T := mT) (rs := []) (by decide +kernel) (fun _ => rfl)) (by omega) rfl (k1 := 23) (t1 := 250960) rfl rfl ?_
  refine st_putF dX11_init_184 fd11_79 rfl (fun _ => rfl) (fun _ => rfl) (Nat.le_of_ble_eq_true rfl) (fs2 := [.ref (1), .int 0, .ref (2), .ref (3), .ref (4), .ref (5), .ref (6), .ref (7), .ref (8), .ref (9), .ref (10), .ref (11), .ref (12), .ref (13), .ref (14), .ref (15), .ref (16), .ref (17), .ref (18), .ref (19), .int 0, .int 0, .int 0, .ref (20), .ref (21), .ref (22), .ref (23), .int 0, .null, .null, .null, .null, .null, .null, .null, .null, .int 0, .null]) rfl ?_
  refine fx_aload_n dX11_init_187 rfl rfl ?_
  refine fx_bipush dX11_init_188 (v := nI 8) (by decide) ?_
  refine st_newZ dX11_init_190 aZ_w (by decide) (by decide) (by decide) (wI_0 (T := mT) (rs := []) (by decide +kernel) (gM_0 (by decide))) (by omega) rfl (k1 := 24) (t1 := 250968) rfl rfl ?_
  refine st_putF dX11_init_192 fd11_82 rfl (fun _ => rfl) (fun _ => rfl) (Nat.le_of_ble_eq_true rfl) (fs2 := [.ref (1), .int 0, .ref (2), .ref (3), .ref (4), .ref (5), .ref (6), .ref (7), .ref (8), .ref (9), .ref (10), .ref (11), .ref (12), .ref (13), .ref (14), .ref (15), .ref (16), .ref (17), .ref (18), .ref (19), .int 0, .int 0, .int 0, .ref (20), .ref (21), .ref (22), .ref (23), .int 0, .ref (24), .null, .null, .null, .null, .null, .null, .null, .int 0, .null]) rfl ?_
  refine fx_aload_n dX11_init_195 rfl rfl ?_
  refine fx_bipush dX11_init_196 (v := nI 8) (by decide) ?_
  refine st_newI dX11_init_198 aI_w (by decide) (by decide) (by decide) (wI_0 (T := mT) (rs := []) (by decide +kernel) (gM_0 (by decide))) (by omega) rfl (k1 := 25) (t1 := 250976) rfl rfl ?_
  refine st_putF dX11_init_200 fd11_85 rfl (fun _ => rfl) (fun _ => rfl) (Nat.le_of_ble_eq_true rfl) (fs2 := [.ref (1), .int 0, .ref (2), .ref (3), .ref (4), .ref (5), .ref (6), .ref (7), .ref (8), .ref (9), .ref (10), .ref (11), .ref (12), .ref (13), .ref (14), .ref (15), .ref (16), .ref (17), .ref (18), .ref (19), .int 0, .int 0, .int 0, .ref (20), .ref (21), .ref (22), .ref (23), .int 0, .ref (24), .ref (25), .null, .null, .null, .null, .null, .null, .int 0, .null]) rfl ?_
  refine fx_aload_n dX11_init_203 rfl rfl ?_
  refine fx_bipush dX11_init_204 (v := nI 8) (by decide) ?_
  refine st_newI dX11_init_206 aI_w (by decide) (by decide) (by decide) (wI_0 (T := mT) (rs := []) (by decide +kernel) (gM_0 (by decide))) (by omega) rfl (k1 := 26) (t1 := 250984) rfl rfl ?_
  refine st_putF dX11_init_208 fd11_88 rfl (fun _ => rfl) (fun _ => rfl) (Nat.le_of_ble_eq_true rfl) (fs2 := [.ref (1), .int 0, .ref (2), .ref (3), .ref (4), .ref (5), .ref (6), .ref (7), .ref (8), .ref (9), .ref (10), .ref (11), .ref (12), .ref (13), .ref (14), .ref (15), .ref (16), .ref (17), .ref (18), .ref (19), .int 0, .int 0, .int 0, .ref (20), .ref (21), .ref (22), .ref (23), .int 0, .ref (24), .ref (25), .ref (26), .null, .null, .null, .null, .null, .int 0, .null]) rfl ?_
  refine fx_aload_n dX11_init_211 rfl rfl ?_
  refine fx_sipush dX11_init_212 (v := nI 625) (by decide) ?_
  refine st_newZ dX11_init_215 aZ_w (by decide) (by decide) (by decide) (wI_0 (T := mT) (rs := []) (by decide +kernel) (gM_0 (by decide))) (by omega) rfl (k1 := 27) (t1 := 251609) rfl rfl ?_
  refine st_putF dX11_init_217 fd11_91 rfl (fun _ => rfl) (fun _ => rfl) (Nat.le_of_ble_eq_true rfl) (fs2 := [.ref (1), .int 0, .ref (2), .ref (3), .ref (4), .ref (5), .ref (6), .ref (7), .ref (8), .ref (9), .ref (10), .ref (11), .ref (12), .ref (13), .ref (14), .ref (15), .ref (16), .ref (17), .ref (18), .ref (19), .int 0, .int 0, .int 0, .ref (20), .ref (21), .ref (22), .ref (23), .int 0, .ref (24), .ref (25), .ref (26), .ref (27), .null, .null, .null, .null, .int 0, .null]) rfl ?_
  refine fx_aload_n dX11_init_220 rfl rfl ?_
  refine fx_sipush dX11_init_221 (v := nI 625) (by decide) ?_
  refine st_newZ dX11_init_224 aZ_w (by decide) (by decide) (by decide) (wI_0 (T := mT) (rs := []) (by decide +kernel) (gM_0 (by decide))) (by omega) rfl (k1 := 28) (t1 := 252234) rfl rfl ?_
  refine st_putF dX11_init_226 fd11_94 rfl (fun _ => rfl) (fun _ => rfl) (Nat.le_of_ble_eq_true rfl) (fs2 := [.ref (1), .int 0, .ref (2), .ref (3), .ref (4), .ref (5), .ref (6), .ref (7), .ref (8), .ref (9), .ref (10), .ref (11), .ref (12), .ref (13), .ref (14), .ref (15), .ref (16), .ref (17), .ref (18), .ref (19), .int 0, .int 0, .int 0, .ref (20), .ref (21), .ref (22), .ref (23), .int 0, .ref (24), .ref (25), .ref (26), .ref (27), .ref (28), .null, .null, .null, .int 0, .null]) rfl ?_
  refine fx_aload_n dX11_init_229 rfl rfl ?_
  refine fx_sipush dX11_init_230 (v := nI 2500) (by decide) ?_
  refine st_newI dX11_init_233 aI_w (by decide) (by decide) (by decide) (wI_0 (T := mT) (rs := []) (by decide +kernel) (gM_0 (by decide))) (by omega) rfl (k1 := 29) (t1 := 254734) rfl rfl ?_
  refine st_putF dX11_init_235 fd11_97 rfl (fun _ => rfl) (fun _ => rfl) (Nat.le_of_ble_eq_true rfl) (fs2 := [.ref (1), .int 0, .ref (2), .ref (3), .ref (4), .ref (5), .ref (6), .ref (7), .ref (8), .ref (9), .ref (10), .ref (11), .ref (12), .ref (13), .ref (14), .ref (15), .ref (16), .ref (17), .ref (18), .ref (19), .int 0, .int 0, .int 0, .ref (20), .ref (21), .ref (22), .ref (23), .int 0, .ref (24), .ref (25), .ref (26), .ref (27), .ref (28), .ref (29), .null, .null, .int 0, .null]) rfl ?_
  refine fx_aload_n dX11_init_238 rfl rfl ?_
  refine fx_sipush dX11_init_239 (v := nI 625) (by decide) ?_
  refine st_newI dX11_init_242 aI_w (by decide) (by decide) (by decide) (wI_0 (T := mT) (rs := []) (by decide +kernel) (gM_0 (by decide))) (by omega) rfl (k1 := 30) (t1 := 255359) rfl rfl ?_
  refine st_putF dX11_init_244 fd11_100 rfl (fun _ => rfl) (fun _ => rfl) (Nat.le_of_ble_eq_true rfl) (fs2 := [.ref (1), .int 0, .ref (2), .ref (3), .ref (4), .ref (5), .ref (6), .ref (7), .ref (8), .ref (9), .ref (10), .ref (11), .ref (12), .ref (13), .ref (14), .ref (15), .ref (16), .ref (17), .ref (18), .ref (19), .int 0, .int 0, .int 0, .ref (20), .ref (21), .ref (22), .ref (23), .int 0, .ref (24), .ref (25), .ref (26), .ref (27), .ref (28), .ref (29), .ref (30), .null, .int 0, .null]) rfl ?_
  refine fx_aload_n dX11_init_247 rfl rfl ?_
  refine fx_sipush dX11_init_248 (v := nI 625) (by decide) ?_
  refine st_newI dX11_init_251 aI_w (by decide) (by decide) (by decide) (wI_0 (T := mT) (rs := []) (by decide +kernel) (gM_0 (by decide))) (by omega) rfl (k1 := 31) (t1 := 255984) rfl rfl ?_
  refine st_putF dX11_init_253 fd11_103 rfl (fun _ => rfl) (fun _ => rfl) (Nat.le_of_ble_eq_true rfl) (fs2 := [.ref (1), .int 0, .ref (2), .ref (3), .ref (4), .ref (5), .ref (6), .ref (7), .ref (8), .ref (9), .ref (10), .ref (11), .ref (12), .ref (13), .ref (14), .ref (15), .ref (16), .ref (17), .ref (18), .ref (19), .int 0, .int 0, .int 0, .ref (20), .ref (21), .ref (22), .ref (23), .int 0, .ref (24), .ref (25), .ref (26), .ref (27), .ref (28), .ref (29), .ref (30), .ref (31), .int 0, .null]) rfl ?_
  refine fx_aload_n dX11_init_256 rfl rfl ?_
  refine fx_sipush dX11_init_257 (v := nI 156) (by decide) ?_
  refine st_newI dX11_init_260 aI_w (by decide) (by decide) (by decide) (wI_0 (T := mT) (rs := []) (by decide +kernel) (gM_0 (by decide))) (by omega) rfl (k1 := 32) (t1 := 256140) rfl rfl ?_
  refine st_putF dX11_init_262 fd11_106 rfl (fun _ => rfl) (fun _ => rfl) (Nat.le_of_ble_eq_true rfl) (fs2 := [.ref (1), .int 0, .ref (2), .ref (3), .ref (4), .ref (5), .ref (6), .ref (7), .ref (8), .ref (9), .ref (10), .ref (11), .ref (12), .ref (13), .ref (14), .ref (15), .ref (16), .ref (17), .ref (18), .ref (19), .int 0, .int 0, .int 0, .ref (20), .ref (21), .ref (22), .ref (23), .int 0, .ref (24), .ref (25), .ref (26), .ref (27), .ref (28), .ref (29), .ref (30), .ref (31), .int 0, .ref (32)]) rfl ?_
  refine fx_aload_n dX11_init_265 rfl rfl ?_
  refine fx_iconst dX11_init_266 (v := nI 2) (by decide) ?_
  refine st_putf dX11_init_267 fd11_109 (fun _ => rfl) (fun _ => rfl) (Nat.le_of_ble_eq_true rfl) (fs2 := [.ref (1), .int 0, .ref (2), .ref (3), .ref (4), .ref (5), .ref (6), .ref (7), .ref (8), .ref (9), .ref (10), .ref (11), .ref (12), .ref (13), .ref (14), .ref (15), .ref (16), .ref (17), .ref (18), .ref (19), .int (nI 2), .int 0, .int 0, .ref (20), .ref (21), .ref (22), .ref (23), .int 0, .ref (24), .ref (25), .ref (26), .ref (27), .ref (28), .ref (29), .ref (30), .ref (31), .int 0, .ref (32)]) rfl ?_
  refine fx_aload_n dX11_init_270 rfl rfl ?_
  refine fx_iconst dX11_init_271 (v := nI 2) (by decide) ?_
  refine st_putf dX11_init_272 fd11_113 (fun _ => rfl) (fun _ => rfl) (Nat.le_of_ble_eq_true rfl) (fs2 := [.ref (1), .int 0, .ref (2), .ref (3), .ref (4), .ref (5), .ref (6), .ref (7), .ref (8), .ref (9), .ref (10), .ref (11), .ref (12), .ref (13), .ref (14), .ref (15), .ref (16), .ref (17), .ref (18), .ref (19), .int (nI 2), .int (nI 2), .int 0, .ref (20), .ref (21), .ref (22), .ref (23), .int 0, .ref (24), .ref (25), .ref (26), .ref (27), .ref (28), .ref (29), .ref (30), .ref (31), .int 0, .ref (32)]) rfl ?_
  refine fx_aload_n dX11_init_275 rfl rfl ?_
  refine fx_iconst dX11_init_276 (v := nI 2) (by decide) ?_
  refine st_putf dX11_init_277 fd11_116 (fun _ => rfl) (fun _ => rfl) (Nat.le_of_ble_eq_true rfl) (fs2 := [.ref (1), .int 0, .ref (2), .ref (3), .ref (4), .ref (5), .ref (6), .ref (7), .ref (8), .ref (9), .ref (10), .ref (11), .ref (12), .ref (13), .ref (14), .ref (15), .ref (16), .ref (17), .ref (18), .ref (19), .int (nI 2), .int (nI 2), .int 0, .ref (20), .ref (21), .ref (22), .ref (23), .int (nI 2), .ref (24), .ref (25), .ref (26), .ref (27), .ref (28), .ref (29), .ref (30), .ref (31), .int 0, .ref (32)]) rfl ?_
  have e : stg (fw mT gM lM) 0 (.inr (8, [.ref (1), .int 0, .ref (2), .ref (3), .ref (4), .ref (5), .ref (6), .ref (7), .ref (8), .ref (9), .ref (10), .ref (11), .ref (12), .ref (13), .ref (14), .ref (15), .ref (16), .ref (17), .ref (18), .ref (19), .int (nI 2), .int (nI 2), .int 0, .ref (20), .ref (21), .ref (22), .ref (23), .int (nI 2), .ref (24), .ref (25), .ref (26), .ref (27), .ref (28), .ref (29), .ref (30), .ref (31), .int 0, .ref (32)])) 33 f = fw mT gM lM := by
    funext i
    unfold stg
    by_cases q : i = 0
    · rw [if_pos q, q]; rfl
    · rw [if_neg q]
      by_cases q2 : 0 < i ∧ i < 33
      · rw [if_pos q2]
      · rw [if_neg q2, hf0 i q]
        unfold fw mT
        rw [List.getElem?_eq_none (by show 33 ≤ i; omega)]
        rfl
  refine fv_drop ?_
  rw [show stg (fw mT gM lM) 0 (.inr (8, [.ref (1), .int 0, .ref (2), .ref (3), .ref (4), .ref (5), .ref (6), .ref (7), .ref (8), .ref (9), .ref (10), .ref (11), .ref (12), .ref (13), .ref (14), .ref (15), .ref (16), .ref (17), .ref (18), .ref (19), .int (nI 2), .int (nI 2), .int 0, .ref (20), .ref (21), .ref (22), .ref (23), .int (nI 2), .ref (24), .ref (25), .ref (26), .ref (27), .ref (28), .ref (29), .ref (30), .ref (31), .int 0, .ref (32)])) (33) f = fw mT gM lM from e]
  refine fx_aload_n dX11_init_280 rfl rfl ?_
  refine fx_callV (as := []) (rest := []) dX11_init_281 lk11_119 fv_c8 rfl (fw_at (T := mT) (a := 0) rfl) (C11_lookAtPoints gM lM 2 rfl (Or.inl rfl)) rfl rfl (by decide) (by decide) (by decide) (by decide) ?_
  rintro r f2 al2 ⟨G2, rfl, rfl, rfl, h1, h2⟩
  exact fx_vret dX11_init_284 rfl rfl rfl (by rw [hQ]; exact ⟨G2, rfl, rfl, rfl, h1, h2⟩)
