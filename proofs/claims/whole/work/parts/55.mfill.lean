/-- the model's fillings at work, gone through up to a place -/
def mbr (G : Nat → Nat → Int32) (k : Nat) (A B C : Nat → Nat) : Prop := ∀ r, 1 ≤ r → r ≤ k → G 12 (r - 1) = nI (A r) ∧ G 14 (r - 1) = nI (C r) ∧ G 13 (r - 1) = nI (B r)
def mus (k : Nat) (B us : Nat → Nat) : Prop := ∀ v, 1 ≤ v → v ≤ k → us v ≤ B v ∧ (1 < v → us v ≤ us (v - 1))
def mcl (G : Nat → Nat → Int32) (k : Nat) (A C : Nat → Nat) (ce : Nat → Nat → Nat) (row col : Nat) : Prop := ∀ r c, r ≤ k → gon A C row col r c → G 18 (4 * (r - 1) + (c - 1)) = nI (ce r c) ∧ 1 ≤ ce r c ∧ ce r c ≤ k
theorem fok_s {A B C : Nat → Nat} {row col : Nat} {ce : Nat → Nat → Nat} {us : Nat → Nat} {v : Nat} (h : us v < B v ∧ (v = 1 ∨ us v < us (v - 1)) ∧ (1 < row ∧ A (row - 1) < col → ce (row - 1) col < v) ∧ (col < C row → v ≤ ce row (col + 1))) : fok A B C (row, col) ce us v = true := decide_eq_true h
theorem fok_1 {A B C : Nat → Nat} {row col : Nat} {ce : Nat → Nat → Nat} {us : Nat → Nat} {v : Nat} (h : fok A B C (row, col) ce us v = true) : us v < B v ∧ (v = 1 ∨ us v < us (v - 1)) ∧ (1 < row ∧ A (row - 1) < col → ce (row - 1) col < v) ∧ (col < C row → v ≤ ce row (col + 1)) := of_decide_eq_true h
theorem fok_n {A B C : Nat → Nat} {row col : Nat} {ce : Nat → Nat → Nat} {us : Nat → Nat} {v : Nat} (h : ¬ (us v < B v ∧ (v = 1 ∨ us v < us (v - 1)) ∧ (1 < row ∧ A (row - 1) < col → ce (row - 1) col < v) ∧ (col < C row → v ≤ ce row (col + 1)))) : fok A B C (row, col) ce us v = false := decide_eq_false h

set_option maxRecDepth 4000 in
set_option maxHeartbeats 1000000 in
theorem C11_mayStand  (G : Nat → Nat → Int32) (L : Nat → Nat → Int64) (k : Nat) (A B C : Nat → Nat) (hb : fbx k A B C) (row col : Nat) (h1 : 1 ≤ row) (h2 : row ≤ k) (h3 : A row < col) (h4 : col ≤ C row) (n : Nat) (hn : n < 16) (h15 : G 15 n = nI (row - 1)) (h16 : G 16 n = nI (col - 1)) (ce : Nat → Nat → Nat) (us : Nat → Nat) (hbr : mbr G k A B C) (hus : mus k B us) (h19 : ∀ x, 1 ≤ x → x ≤ k → G 19 x = nI (us x)) (hcl : mcl G k A C ce row col) (v : Nat) (v1 : 1 ≤ v) (v2 : v ≤ k)  : fv_M Y11_mayStand 0 0 0 [.ref 0, .int (nI k), .int (nI n), .int (nI v)] (fw mT G L) none (fv_eq (some (.int (bI (fok A B C (row, col) ce us v)))) (fw mT G L)) := by
  refine fv_enter rfl (Nat.le_of_ble_eq_true rfl) ?_
  obtain ⟨Q, hQ⟩ : ∃ Q : Option Value → fv_F → Option Nat → Prop, Q = (fv_eq (some (.int (bI (fok A B C (row, col) ce us v)))) (fw mT G L)) := ⟨_, rfl⟩
  rw [← hQ]
  show fv_At Y11_mayStand 0 0 0 Q 0 [(0, .ref 0), (1, .int (nI k)), (2, .int (nI n)), (3, .int (nI v))] [] (fw mT G L) none 0 0
  have hk4 := hb.1
  have hb2 := hb.2.1 row h1 h2
  have huv := hus v v1 v2
  have hB9 := hb.2.2.2 v v1 v2
  refine fx_aload_n dX11_mayStand_0 rfl (i := 0) rfl ?_
  refine fw_getr dX11_mayStand_1 fd11_55 rfl rfl ?_
  refine fx_iload_n dX11_mayStand_4 rfl (i := 2) rfl ?_
  refine fw_iald n dX11_mayStand_5 rfl rfl (by omega) (by decide) ?_
  refine fn_to (show _ = (nI (row - 1)) from h15) ?_
  refine fx_istore (lv2 := [(0, .ref 0), (1, .int (nI k)), (2, .int (nI n)), (3, .int (nI v)), (4, .int (nI (row - 1)))]) dX11_mayStand_6 (by decide) rfl ?_
  refine fx_aload_n dX11_mayStand_8 rfl (i := 0) rfl ?_
  refine fw_getr dX11_mayStand_9 fd11_58 rfl rfl ?_
  refine fx_iload_n dX11_mayStand_12 rfl (i := 2) rfl ?_
  refine fw_iald n dX11_mayStand_13 rfl rfl (by omega) (by decide) ?_
  refine fn_to (show _ = (nI (col - 1)) from h16) ?_
  refine fx_istore (lv2 := [(0, .ref 0), (1, .int (nI k)), (2, .int (nI n)), (3, .int (nI v)), (4, .int (nI (row - 1))), (5, .int (nI (col - 1)))]) dX11_mayStand_14 (by decide) rfl ?_
  refine fx_aload_n dX11_mayStand_16 rfl (i := 0) rfl ?_
  refine fw_getr dX11_mayStand_17 fd11_67 rfl rfl ?_
  refine fx_iload_n dX11_mayStand_20 rfl (i := 3) rfl ?_
  refine fw_iald v dX11_mayStand_21 rfl rfl (by omega) (by decide) ?_
  refine fn_to (show _ = (nI (us v)) from (h19 v v1 v2)) ?_
  refine fx_aload_n dX11_mayStand_22 rfl (i := 0) rfl ?_
  refine fw_getr dX11_mayStand_23 fd11_49 rfl rfl ?_
  refine fx_iload_n dX11_mayStand_26 rfl (i := 3) rfl ?_
  refine fx_iconst (v := (nI 1)) dX11_mayStand_27 (by decide) ?_
  refine fn_isub dX11_mayStand_28 (by omega) ?_
  refine fw_iald (v - 1) dX11_mayStand_29 rfl rfl (by omega) (by decide) ?_
  refine fn_to (show _ = (nI (B v)) from (hbr v v1 v2).2.2) ?_
  refine fn_icmp_eq (tgt := 55) dX11_mayStand_30 (by decide) (by omega) (by omega) (fun c30 => ?_) (fun c30 => ?_)
  · skip
    refine fx_iconst (v := (nI 0)) dX11_mayStand_55 (by decide) ?_
    refine fn_to (show _ = (bI false) from rfl) ?_
    exact fx_zret dX11_mayStand_56 rfl (bI_01 _) rfl rfl (by rw [hQ]; exact ⟨by rw [fok_n (fun w => by omega)], rfl, rfl⟩)
  · skip
    refine fx_iload_n dX11_mayStand_33 rfl (i := 3) rfl ?_
    refine fx_iconst (v := (nI 1)) dX11_mayStand_34 (by decide) ?_
    refine fn_icmp_le (tgt := 57) dX11_mayStand_35 (by decide) (by omega) (by omega) (fun c35 => ?_) (fun c35 => ?_)
    · skip
      refine fx_iload dX11_mayStand_57 rfl ?_
      refine fx_iconst (v := (nI 1)) dX11_mayStand_59 (by decide) ?_
      refine fn_iadd dX11_mayStand_60 ?_
      refine fx_aload_n dX11_mayStand_61 rfl (i := 0) rfl ?_
      refine fw_getr dX11_mayStand_62 fd11_52 rfl rfl ?_
      refine fx_iload dX11_mayStand_65 rfl ?_
      refine fw_iald (row - 1) dX11_mayStand_67 rfl rfl (by omega) (by decide) ?_
      refine fn_to (show _ = (nI (C row)) from (hbr row h1 h2).2.1) ?_
      refine fn_icmp_ge (tgt := 91) dX11_mayStand_68 (by decide) (by omega) (by omega) (fun c68 => ?_) (fun c68 => ?_)
      · skip
        refine fx_iload dX11_mayStand_91 rfl ?_
        refine fn_if_eq (tgt := 128) dX11_mayStand_93 (by decide) (by omega) (fun c93 => ?_) (fun c93 => ?_)
        · skip
          refine fx_iconst (v := (nI 1)) dX11_mayStand_128 (by decide) ?_
          refine fn_to (show _ = (bI true) from rfl) ?_
          refine fx_goto (tgt := 133) dX11_mayStand_129 (by decide) ?_
          exact fx_zret dX11_mayStand_133 rfl (bI_01 _) rfl rfl (by rw [hQ]; exact ⟨by rw [fok_s ⟨by omega, by omega, fun w => by first | omega | exact absurd w.1 (by omega), fun w => by omega⟩], rfl, rfl⟩)
        · skip
          have hb3 := hb.2.1 (row - 1) (by omega) (by omega)
          refine fx_iload dX11_mayStand_96 rfl ?_
          refine fx_aload_n dX11_mayStand_98 rfl (i := 0) rfl ?_
          refine fw_getr dX11_mayStand_99 fd11_46 rfl rfl ?_
          refine fx_iload dX11_mayStand_102 rfl ?_
          refine fx_iconst (v := (nI 1)) dX11_mayStand_104 (by decide) ?_
          refine fn_isub dX11_mayStand_105 (by omega) ?_
          refine fw_iald ((row - 1) - 1) dX11_mayStand_106 rfl rfl (by omega) (by decide) ?_
          refine fn_to (show _ = (nI (A (row - 1))) from (hbr (row - 1) (by omega) (by omega)).1) ?_
          refine fn_icmp_lt (tgt := 128) dX11_mayStand_107 (by decide) (by omega) (by omega) (fun c107 => ?_) (fun c107 => ?_)
          · skip
            refine fx_iconst (v := (nI 1)) dX11_mayStand_128 (by decide) ?_
            refine fn_to (show _ = (bI true) from rfl) ?_
            refine fx_goto (tgt := 133) dX11_mayStand_129 (by decide) ?_
            exact fx_zret dX11_mayStand_133 rfl (bI_01 _) rfl rfl (by rw [hQ]; exact ⟨by rw [fok_s ⟨by omega, by omega, fun w => by first | omega | exact absurd w.1 (by omega), fun w => by omega⟩], rfl, rfl⟩)
          · skip
            have hC := hb.2.2.1 (row - 1) (by omega) (by omega)
            rw [show row - 1 + 1 = row by omega] at hC
            have hcu := hcl (row - 1) col (by omega) (by unfold gon; omega)
            rw [show 4 * (row - 1 - 1) + (col - 1) = 4 * (row - 1) - 4 + (col - 1) by omega] at hcu
            refine fx_aload_n dX11_mayStand_110 rfl (i := 0) rfl ?_
            refine fw_getr dX11_mayStand_111 fd11_64 rfl rfl ?_
            refine fx_iconst (v := (nI 4)) dX11_mayStand_114 (by decide) ?_
            refine fx_iload dX11_mayStand_115 rfl ?_
            refine fn_imul dX11_mayStand_117 ?_
            refine fx_iconst (v := (nI 4)) dX11_mayStand_118 (by decide) ?_
            refine fn_isub dX11_mayStand_119 (by omega) ?_
            refine fx_iload dX11_mayStand_120 rfl ?_
            refine fn_iadd dX11_mayStand_122 ?_
            refine fw_iald (((4 * (row - 1)) - 4) + (col - 1)) dX11_mayStand_123 rfl rfl (by omega) (by decide) ?_
            refine fn_to (show _ = (nI (ce (row - 1) col)) from hcu.1) ?_
            refine fx_iload_n dX11_mayStand_124 rfl (i := 3) rfl ?_
            refine fn_icmp_ge (tgt := 132) dX11_mayStand_125 (by decide) (by omega) (by omega) (fun c125 => ?_) (fun c125 => ?_)
            · skip
              refine fx_iconst (v := (nI 0)) dX11_mayStand_132 (by decide) ?_
              refine fn_to (show _ = (bI false) from rfl) ?_
              exact fx_zret dX11_mayStand_133 rfl (bI_01 _) rfl rfl (by rw [hQ]; exact ⟨by rw [fok_n (fun w => by have := w.2.2.1 (by omega); omega)], rfl, rfl⟩)
            · skip
              refine fx_iconst (v := (nI 1)) dX11_mayStand_128 (by decide) ?_
              refine fn_to (show _ = (bI true) from rfl) ?_
              refine fx_goto (tgt := 133) dX11_mayStand_129 (by decide) ?_
              exact fx_zret dX11_mayStand_133 rfl (bI_01 _) rfl rfl (by rw [hQ]; exact ⟨by rw [fok_s ⟨by omega, by omega, fun w => by first | omega | exact absurd w.1 (by omega), fun w => by omega⟩], rfl, rfl⟩)
      · skip
        have hce := hcl row (col + 1) h2 (by unfold gon; omega)
        rw [show 4 * (row - 1) + (col + 1 - 1) = 4 * (row - 1) + (col - 1) + 1 by omega] at hce
        refine fx_aload_n dX11_mayStand_71 rfl (i := 0) rfl ?_
        refine fw_getr dX11_mayStand_72 fd11_64 rfl rfl ?_
        refine fx_iconst (v := (nI 4)) dX11_mayStand_75 (by decide) ?_
        refine fx_iload dX11_mayStand_76 rfl ?_
        refine fn_imul dX11_mayStand_78 ?_
        refine fx_iload dX11_mayStand_79 rfl ?_
        refine fn_iadd dX11_mayStand_81 ?_
        refine fx_iconst (v := (nI 1)) dX11_mayStand_82 (by decide) ?_
        refine fn_iadd dX11_mayStand_83 ?_
        refine fw_iald (((4 * (row - 1)) + (col - 1)) + 1) dX11_mayStand_84 rfl rfl (by omega) (by decide) ?_
        refine fn_to (show _ = (nI (ce row (col + 1))) from hce.1) ?_
        refine fx_iload_n dX11_mayStand_85 rfl (i := 3) rfl ?_
        refine fn_icmp_ge (tgt := 91) dX11_mayStand_86 (by decide) (by omega) (by omega) (fun c86 => ?_) (fun c86 => ?_)
        · skip
          refine fx_iload dX11_mayStand_91 rfl ?_
          refine fn_if_eq (tgt := 128) dX11_mayStand_93 (by decide) (by omega) (fun c93 => ?_) (fun c93 => ?_)
          · skip
            refine fx_iconst (v := (nI 1)) dX11_mayStand_128 (by decide) ?_
            refine fn_to (show _ = (bI true) from rfl) ?_
            refine fx_goto (tgt := 133) dX11_mayStand_129 (by decide) ?_
            exact fx_zret dX11_mayStand_133 rfl (bI_01 _) rfl rfl (by rw [hQ]; exact ⟨by rw [fok_s ⟨by omega, by omega, fun w => by first | omega | exact absurd w.1 (by omega), fun w => by omega⟩], rfl, rfl⟩)
          · skip
            have hb3 := hb.2.1 (row - 1) (by omega) (by omega)
            refine fx_iload dX11_mayStand_96 rfl ?_
            refine fx_aload_n dX11_mayStand_98 rfl (i := 0) rfl ?_
            refine fw_getr dX11_mayStand_99 fd11_46 rfl rfl ?_
            refine fx_iload dX11_mayStand_102 rfl ?_
            refine fx_iconst (v := (nI 1)) dX11_mayStand_104 (by decide) ?_
            refine fn_isub dX11_mayStand_105 (by omega) ?_
            refine fw_iald ((row - 1) - 1) dX11_mayStand_106 rfl rfl (by omega) (by decide) ?_
            refine fn_to (show _ = (nI (A (row - 1))) from (hbr (row - 1) (by omega) (by omega)).1) ?_
            refine fn_icmp_lt (tgt := 128) dX11_mayStand_107 (by decide) (by omega) (by omega) (fun c107 => ?_) (fun c107 => ?_)
            · skip
              refine fx_iconst (v := (nI 1)) dX11_mayStand_128 (by decide) ?_
              refine fn_to (show _ = (bI true) from rfl) ?_
              refine fx_goto (tgt := 133) dX11_mayStand_129 (by decide) ?_
              exact fx_zret dX11_mayStand_133 rfl (bI_01 _) rfl rfl (by rw [hQ]; exact ⟨by rw [fok_s ⟨by omega, by omega, fun w => by first | omega | exact absurd w.1 (by omega), fun w => by omega⟩], rfl, rfl⟩)
            · skip
              have hC := hb.2.2.1 (row - 1) (by omega) (by omega)
              rw [show row - 1 + 1 = row by omega] at hC
              have hcu := hcl (row - 1) col (by omega) (by unfold gon; omega)
              rw [show 4 * (row - 1 - 1) + (col - 1) = 4 * (row - 1) - 4 + (col - 1) by omega] at hcu
              refine fx_aload_n dX11_mayStand_110 rfl (i := 0) rfl ?_
              refine fw_getr dX11_mayStand_111 fd11_64 rfl rfl ?_
              refine fx_iconst (v := (nI 4)) dX11_mayStand_114 (by decide) ?_
              refine fx_iload dX11_mayStand_115 rfl ?_
              refine fn_imul dX11_mayStand_117 ?_
              refine fx_iconst (v := (nI 4)) dX11_mayStand_118 (by decide) ?_
              refine fn_isub dX11_mayStand_119 (by omega) ?_
              refine fx_iload dX11_mayStand_120 rfl ?_
              refine fn_iadd dX11_mayStand_122 ?_
              refine fw_iald (((4 * (row - 1)) - 4) + (col - 1)) dX11_mayStand_123 rfl rfl (by omega) (by decide) ?_
              refine fn_to (show _ = (nI (ce (row - 1) col)) from hcu.1) ?_
              refine fx_iload_n dX11_mayStand_124 rfl (i := 3) rfl ?_
              refine fn_icmp_ge (tgt := 132) dX11_mayStand_125 (by decide) (by omega) (by omega) (fun c125 => ?_) (fun c125 => ?_)
              · skip
                refine fx_iconst (v := (nI 0)) dX11_mayStand_132 (by decide) ?_
                refine fn_to (show _ = (bI false) from rfl) ?_
                exact fx_zret dX11_mayStand_133 rfl (bI_01 _) rfl rfl (by rw [hQ]; exact ⟨by rw [fok_n (fun w => by have := w.2.2.1 (by omega); omega)], rfl, rfl⟩)
              · skip
                refine fx_iconst (v := (nI 1)) dX11_mayStand_128 (by decide) ?_
                refine fn_to (show _ = (bI true) from rfl) ?_
                refine fx_goto (tgt := 133) dX11_mayStand_129 (by decide) ?_
                exact fx_zret dX11_mayStand_133 rfl (bI_01 _) rfl rfl (by rw [hQ]; exact ⟨by rw [fok_s ⟨by omega, by omega, fun w => by first | omega | exact absurd w.1 (by omega), fun w => by omega⟩], rfl, rfl⟩)
        · skip
          refine fx_iconst (v := (nI 0)) dX11_mayStand_89 (by decide) ?_
          refine fn_to (show _ = (bI false) from rfl) ?_
          exact fx_zret dX11_mayStand_90 rfl (bI_01 _) rfl rfl (by rw [hQ]; exact ⟨by rw [fok_n (fun w => by have := w.2.2.2 (by omega); omega)], rfl, rfl⟩)
    · skip
      have huw := hus (v - 1) (by omega) (by omega)
      have hB8 := hb.2.2.2 (v - 1) (by omega) (by omega)
      refine fx_aload_n dX11_mayStand_38 rfl (i := 0) rfl ?_
      refine fw_getr dX11_mayStand_39 fd11_67 rfl rfl ?_
      refine fx_iload_n dX11_mayStand_42 rfl (i := 3) rfl ?_
      refine fw_iald v dX11_mayStand_43 rfl rfl (by omega) (by decide) ?_
      refine fn_to (show _ = (nI (us v)) from (h19 v v1 v2)) ?_
      refine fx_aload_n dX11_mayStand_44 rfl (i := 0) rfl ?_
      refine fw_getr dX11_mayStand_45 fd11_67 rfl rfl ?_
      refine fx_iload_n dX11_mayStand_48 rfl (i := 3) rfl ?_
      refine fx_iconst (v := (nI 1)) dX11_mayStand_49 (by decide) ?_
      refine fn_isub dX11_mayStand_50 (by omega) ?_
      refine fw_iald (v - 1) dX11_mayStand_51 rfl rfl (by omega) (by decide) ?_
      refine fn_to (show _ = (nI (us (v - 1))) from (h19 (v - 1) (by omega) (by omega))) ?_
      refine fn_icmp_ne (tgt := 57) dX11_mayStand_52 (by decide) (by omega) (by omega) (fun c52 => ?_) (fun c52 => ?_)
      · skip
        refine fx_iload dX11_mayStand_57 rfl ?_
        refine fx_iconst (v := (nI 1)) dX11_mayStand_59 (by decide) ?_
        refine fn_iadd dX11_mayStand_60 ?_
        refine fx_aload_n dX11_mayStand_61 rfl (i := 0) rfl ?_
        refine fw_getr dX11_mayStand_62 fd11_52 rfl rfl ?_
        refine fx_iload dX11_mayStand_65 rfl ?_
        refine fw_iald (row - 1) dX11_mayStand_67 rfl rfl (by omega) (by decide) ?_
        refine fn_to (show _ = (nI (C row)) from (hbr row h1 h2).2.1) ?_
        refine fn_icmp_ge (tgt := 91) dX11_mayStand_68 (by decide) (by omega) (by omega) (fun c68 => ?_) (fun c68 => ?_)
        · skip
          refine fx_iload dX11_mayStand_91 rfl ?_
          refine fn_if_eq (tgt := 128) dX11_mayStand_93 (by decide) (by omega) (fun c93 => ?_) (fun c93 => ?_)
          · skip
            refine fx_iconst (v := (nI 1)) dX11_mayStand_128 (by decide) ?_
            refine fn_to (show _ = (bI true) from rfl) ?_
            refine fx_goto (tgt := 133) dX11_mayStand_129 (by decide) ?_
            exact fx_zret dX11_mayStand_133 rfl (bI_01 _) rfl rfl (by rw [hQ]; exact ⟨by rw [fok_s ⟨by omega, by omega, fun w => by first | omega | exact absurd w.1 (by omega), fun w => by omega⟩], rfl, rfl⟩)
          · skip
            have hb3 := hb.2.1 (row - 1) (by omega) (by omega)
            refine fx_iload dX11_mayStand_96 rfl ?_
            refine fx_aload_n dX11_mayStand_98 rfl (i := 0) rfl ?_
            refine fw_getr dX11_mayStand_99 fd11_46 rfl rfl ?_
            refine fx_iload dX11_mayStand_102 rfl ?_
            refine fx_iconst (v := (nI 1)) dX11_mayStand_104 (by decide) ?_
            refine fn_isub dX11_mayStand_105 (by omega) ?_
            refine fw_iald ((row - 1) - 1) dX11_mayStand_106 rfl rfl (by omega) (by decide) ?_
            refine fn_to (show _ = (nI (A (row - 1))) from (hbr (row - 1) (by omega) (by omega)).1) ?_
            refine fn_icmp_lt (tgt := 128) dX11_mayStand_107 (by decide) (by omega) (by omega) (fun c107 => ?_) (fun c107 => ?_)
            · skip
              refine fx_iconst (v := (nI 1)) dX11_mayStand_128 (by decide) ?_
              refine fn_to (show _ = (bI true) from rfl) ?_
              refine fx_goto (tgt := 133) dX11_mayStand_129 (by decide) ?_
              exact fx_zret dX11_mayStand_133 rfl (bI_01 _) rfl rfl (by rw [hQ]; exact ⟨by rw [fok_s ⟨by omega, by omega, fun w => by first | omega | exact absurd w.1 (by omega), fun w => by omega⟩], rfl, rfl⟩)
            · skip
              have hC := hb.2.2.1 (row - 1) (by omega) (by omega)
              rw [show row - 1 + 1 = row by omega] at hC
              have hcu := hcl (row - 1) col (by omega) (by unfold gon; omega)
              rw [show 4 * (row - 1 - 1) + (col - 1) = 4 * (row - 1) - 4 + (col - 1) by omega] at hcu
              refine fx_aload_n dX11_mayStand_110 rfl (i := 0) rfl ?_
              refine fw_getr dX11_mayStand_111 fd11_64 rfl rfl ?_
              refine fx_iconst (v := (nI 4)) dX11_mayStand_114 (by decide) ?_
              refine fx_iload dX11_mayStand_115 rfl ?_
              refine fn_imul dX11_mayStand_117 ?_
              refine fx_iconst (v := (nI 4)) dX11_mayStand_118 (by decide) ?_
              refine fn_isub dX11_mayStand_119 (by omega) ?_
              refine fx_iload dX11_mayStand_120 rfl ?_
              refine fn_iadd dX11_mayStand_122 ?_
              refine fw_iald (((4 * (row - 1)) - 4) + (col - 1)) dX11_mayStand_123 rfl rfl (by omega) (by decide) ?_
              refine fn_to (show _ = (nI (ce (row - 1) col)) from hcu.1) ?_
              refine fx_iload_n dX11_mayStand_124 rfl (i := 3) rfl ?_
              refine fn_icmp_ge (tgt := 132) dX11_mayStand_125 (by decide) (by omega) (by omega) (fun c125 => ?_) (fun c125 => ?_)
              · skip
                refine fx_iconst (v := (nI 0)) dX11_mayStand_132 (by decide) ?_
                refine fn_to (show _ = (bI false) from rfl) ?_
                exact fx_zret dX11_mayStand_133 rfl (bI_01 _) rfl rfl (by rw [hQ]; exact ⟨by rw [fok_n (fun w => by have := w.2.2.1 (by omega); omega)], rfl, rfl⟩)
              · skip
                refine fx_iconst (v := (nI 1)) dX11_mayStand_128 (by decide) ?_
                refine fn_to (show _ = (bI true) from rfl) ?_
                refine fx_goto (tgt := 133) dX11_mayStand_129 (by decide) ?_
                exact fx_zret dX11_mayStand_133 rfl (bI_01 _) rfl rfl (by rw [hQ]; exact ⟨by rw [fok_s ⟨by omega, by omega, fun w => by first | omega | exact absurd w.1 (by omega), fun w => by omega⟩], rfl, rfl⟩)
        · skip
          have hce := hcl row (col + 1) h2 (by unfold gon; omega)
          rw [show 4 * (row - 1) + (col + 1 - 1) = 4 * (row - 1) + (col - 1) + 1 by omega] at hce
          refine fx_aload_n dX11_mayStand_71 rfl (i := 0) rfl ?_
          refine fw_getr dX11_mayStand_72 fd11_64 rfl rfl ?_
          refine fx_iconst (v := (nI 4)) dX11_mayStand_75 (by decide) ?_
          refine fx_iload dX11_mayStand_76 rfl ?_
          refine fn_imul dX11_mayStand_78 ?_
          refine fx_iload dX11_mayStand_79 rfl ?_
          refine fn_iadd dX11_mayStand_81 ?_
          refine fx_iconst (v := (nI 1)) dX11_mayStand_82 (by decide) ?_
          refine fn_iadd dX11_mayStand_83 ?_
          refine fw_iald (((4 * (row - 1)) + (col - 1)) + 1) dX11_mayStand_84 rfl rfl (by omega) (by decide) ?_
          refine fn_to (show _ = (nI (ce row (col + 1))) from hce.1) ?_
          refine fx_iload_n dX11_mayStand_85 rfl (i := 3) rfl ?_
          refine fn_icmp_ge (tgt := 91) dX11_mayStand_86 (by decide) (by omega) (by omega) (fun c86 => ?_) (fun c86 => ?_)
          · skip
            refine fx_iload dX11_mayStand_91 rfl ?_
            refine fn_if_eq (tgt := 128) dX11_mayStand_93 (by decide) (by omega) (fun c93 => ?_) (fun c93 => ?_)
            · skip
              refine fx_iconst (v := (nI 1)) dX11_mayStand_128 (by decide) ?_
              refine fn_to (show _ = (bI true) from rfl) ?_
              refine fx_goto (tgt := 133) dX11_mayStand_129 (by decide) ?_
              exact fx_zret dX11_mayStand_133 rfl (bI_01 _) rfl rfl (by rw [hQ]; exact ⟨by rw [fok_s ⟨by omega, by omega, fun w => by first | omega | exact absurd w.1 (by omega), fun w => by omega⟩], rfl, rfl⟩)
            · skip
              have hb3 := hb.2.1 (row - 1) (by omega) (by omega)
              refine fx_iload dX11_mayStand_96 rfl ?_
              refine fx_aload_n dX11_mayStand_98 rfl (i := 0) rfl ?_
              refine fw_getr dX11_mayStand_99 fd11_46 rfl rfl ?_
              refine fx_iload dX11_mayStand_102 rfl ?_
              refine fx_iconst (v := (nI 1)) dX11_mayStand_104 (by decide) ?_
              refine fn_isub dX11_mayStand_105 (by omega) ?_
              refine fw_iald ((row - 1) - 1) dX11_mayStand_106 rfl rfl (by omega) (by decide) ?_
              refine fn_to (show _ = (nI (A (row - 1))) from (hbr (row - 1) (by omega) (by omega)).1) ?_
              refine fn_icmp_lt (tgt := 128) dX11_mayStand_107 (by decide) (by omega) (by omega) (fun c107 => ?_) (fun c107 => ?_)
              · skip
                refine fx_iconst (v := (nI 1)) dX11_mayStand_128 (by decide) ?_
                refine fn_to (show _ = (bI true) from rfl) ?_
                refine fx_goto (tgt := 133) dX11_mayStand_129 (by decide) ?_
                exact fx_zret dX11_mayStand_133 rfl (bI_01 _) rfl rfl (by rw [hQ]; exact ⟨by rw [fok_s ⟨by omega, by omega, fun w => by first | omega | exact absurd w.1 (by omega), fun w => by omega⟩], rfl, rfl⟩)
              · skip
                have hC := hb.2.2.1 (row - 1) (by omega) (by omega)
                rw [show row - 1 + 1 = row by omega] at hC
                have hcu := hcl (row - 1) col (by omega) (by unfold gon; omega)
                rw [show 4 * (row - 1 - 1) + (col - 1) = 4 * (row - 1) - 4 + (col - 1) by omega] at hcu
                refine fx_aload_n dX11_mayStand_110 rfl (i := 0) rfl ?_
                refine fw_getr dX11_mayStand_111 fd11_64 rfl rfl ?_
                refine fx_iconst (v := (nI 4)) dX11_mayStand_114 (by decide) ?_
                refine fx_iload dX11_mayStand_115 rfl ?_
                refine fn_imul dX11_mayStand_117 ?_
                refine fx_iconst (v := (nI 4)) dX11_mayStand_118 (by decide) ?_
                refine fn_isub dX11_mayStand_119 (by omega) ?_
                refine fx_iload dX11_mayStand_120 rfl ?_
                refine fn_iadd dX11_mayStand_122 ?_
                refine fw_iald (((4 * (row - 1)) - 4) + (col - 1)) dX11_mayStand_123 rfl rfl (by omega) (by decide) ?_
                refine fn_to (show _ = (nI (ce (row - 1) col)) from hcu.1) ?_
                refine fx_iload_n dX11_mayStand_124 rfl (i := 3) rfl ?_
                refine fn_icmp_ge (tgt := 132) dX11_mayStand_125 (by decide) (by omega) (by omega) (fun c125 => ?_) (fun c125 => ?_)
                · skip
                  refine fx_iconst (v := (nI 0)) dX11_mayStand_132 (by decide) ?_
                  refine fn_to (show _ = (bI false) from rfl) ?_
                  exact fx_zret dX11_mayStand_133 rfl (bI_01 _) rfl rfl (by rw [hQ]; exact ⟨by rw [fok_n (fun w => by have := w.2.2.1 (by omega); omega)], rfl, rfl⟩)
                · skip
                  refine fx_iconst (v := (nI 1)) dX11_mayStand_128 (by decide) ?_
                  refine fn_to (show _ = (bI true) from rfl) ?_
                  refine fx_goto (tgt := 133) dX11_mayStand_129 (by decide) ?_
                  exact fx_zret dX11_mayStand_133 rfl (bI_01 _) rfl rfl (by rw [hQ]; exact ⟨by rw [fok_s ⟨by omega, by omega, fun w => by first | omega | exact absurd w.1 (by omega), fun w => by omega⟩], rfl, rfl⟩)
          · skip
            refine fx_iconst (v := (nI 0)) dX11_mayStand_89 (by decide) ?_
            refine fn_to (show _ = (bI false) from rfl) ?_
            exact fx_zret dX11_mayStand_90 rfl (bI_01 _) rfl rfl (by rw [hQ]; exact ⟨by rw [fok_n (fun w => by have := w.2.2.2 (by omega); omega)], rfl, rfl⟩)
      · skip
        refine fx_iconst (v := (nI 0)) dX11_mayStand_55 (by decide) ?_
        refine fn_to (show _ = (bI false) from rfl) ?_
        exact fx_zret dX11_mayStand_56 rfl (bI_01 _) rfl rfl (by rw [hQ]; exact ⟨by rw [fok_n (fun w => by omega)], rfl, rfl⟩)

/-- places in order, each behind all ahead of it -/
def CHS (k : Nat) (A C : Nat → Nat) : Nat → Nat → List (Nat × Nat) → Prop
  | _, _, [] => True
  | row, col, p :: r => (1 ≤ p.1 ∧ p.1 ≤ k ∧ A p.1 < p.2 ∧ p.2 ≤ C p.1) ∧ (∀ x y, x ≤ k → (gon A C p.1 p.2 x y ↔ gon A C row col x y)) ∧ CHS k A C p.1 (p.2 - 1) r
theorem CHS_w {k : Nat} {A C : Nat → Nat} {row col row2 col2 : Nat} (h : ∀ x y, x ≤ k → (gon A C row col x y ↔ gon A C row2 col2 x y)) : ∀ {l : List (Nat × Nat)}, CHS k A C row col l → CHS k A C row2 col2 l
  | [], _ => trivial
  | _ :: _, q => ⟨q.1, fun x y a => (q.2.1 x y a).trans (h x y a), q.2.2⟩
theorem CHS_r {k : Nat} {A B C : Nat → Nat} (hb : fbx k A B C) : ∀ n row col, (k - row) * 5 + col ≤ n → 1 ≤ row → row ≤ k → A row ≤ col → col ≤ C row → CHS k A C row col (rsP k A C row col)
  | 0, row, col, hn, h1, h2, h3, h4 => by
    have hrk : row = k := by omega
    rw [rsP_l (by omega) hrk, hrk, rsP_e]
    exact trivial
  | n + 1, row, col, hn, h1, h2, h3, h4 => by
    have hb2 := hb.2.1 row h1 h2
    by_cases q : A row < col
    · rw [rsP_c q]
      exact ⟨⟨h1, h2, q, h4⟩, fun _ _ _ => Iff.rfl, CHS_r hb n row (col - 1) (by omega) h1 h2 (by omega) (by omega)⟩
    · by_cases z : row < k
      · have hb3 := hb.2.1 (row + 1) (by omega) (by omega)
        rw [rsP_d (by omega) z]
        refine CHS_w (fun x y hx => ?_) (CHS_r hb n (row + 1) (C (row + 1)) (by omega) (by omega) (by omega) hb3.1 (Nat.le_refl _))
        unfold gon
        by_cases e : x = row + 1
        · subst e; omega
        · by_cases e2 : x = row
          · subst e2; omega
          · omega
      · have hrk : row = k := by omega
        rw [rsP_l (by omega) hrk, hrk, rsP_e]
        exact trivial
def cst (k : Nat) : List (Nat × Nat) → Nat
  | [] => 0
  | _ :: r => (k + 1) * (1 + cst k r) + 1
theorem mu_lt {k s v X : Nat} (h : s < v) (h2 : v ≤ k) : (k - v) * X + X ≤ (k - s) * X := by
  have e : k - s = (k - v) + 1 + (v - s - 1) := by omega
  rw [e, Nat.add_mul, Nat.add_mul, Nat.one_mul]
  omega
theorem fiV_m (g : Nat → Nat) (ok : Nat → Bool) : ∀ n v m, fiV g ok n v m = m + fiV g ok n v 0
  | 0, _, _ => rfl
  | n + 1, v, m => by
    rw [fiV_s, fiV_s, fiV_m g ok n (v + 1) (if ok v = true then m + g v else m), fiV_m g ok n (v + 1) (if ok v = true then 0 + g v else 0)]
    split <;> omega
/-- the next number that may stand -/
theorem fiV_next (g : Nat → Nat) (ok : Nat → Bool) {k s v : Nat} (hs : s < v) (hv : v ≤ k) (hn : ∀ x, s < x → x < v → ok x = false) (ho : ok v = true) : fiV g ok (k - s) (s + 1) 0 = g v + fiV g ok (k - v) (v + 1) 0 := by
  have q := fiV_skip g ok (v - s - 1) (k - v + 1) (s + 1) 0 (fun x a b => hn x (by omega) (by omega))
  rw [show v - s - 1 + (k - v + 1) = k - s by omega, show s + 1 + (v - s - 1) = v by omega, fiV_s, if_pos ho, Nat.zero_add] at q
  rw [q]
  exact fiV_m _ _ _ _ _
theorem mus_u {k : Nat} {B us : Nat → Nat} {v : Nat} (h : mus k B us) (h1 : us v < B v) (h2 : v = 1 ∨ us v < us (v - 1)) (hv : 1 ≤ v) : mus k B (uu us v) := by
  intro x x1 x2
  have q := h x x1 x2
  unfold uu
  by_cases e : x = v
  · subst e
    rw [if_pos rfl, if_neg (by omega)]
    omega
  · rw [if_neg e]
    by_cases e2 : x - 1 = v
    · rw [if_pos e2]; subst e2; omega
    · rw [if_neg e2]; exact q
def qmf (G : Nat → Nat → Int32) (L : Nat → Nat → Int64) (v : Nat) : Option Value → fv_F → Option Nat → Prop := fun r2 f2 al2 => ∃ G2 : Nat → Nat → Int32, r2 = some (.int (nI v)) ∧ f2 = fw mT G2 L ∧ al2 = none ∧ ∀ i, i ≠ 15 → i ≠ 16 → i ≠ 17 → i ≠ 18 → i ≠ 19 → G2 i = G i
