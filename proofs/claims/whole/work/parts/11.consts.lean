/-! ===== constants that the pools name; numbers ===== -/
theorem kc10_98 : Jvm.Cond.constant RX10 98 (-1000000) ∈ fv_tbl := fv_at 395 (by decide +kernel) (by decide +kernel)
theorem kc10_99 : Jvm.Cond.constant RX10 99 (1000000) ∈ fv_tbl := fv_at 396 (by decide +kernel) (by decide +kernel)
theorem kc10_214 : Jvm.Cond.constantLong RX10 214 (17) ∈ fv_tbl := fv_at 754 (by decide +kernel) (by decide +kernel)
theorem kc10_216 : Jvm.Cond.constantLong RX10 216 (31) ∈ fv_tbl := fv_at 755 (by decide +kernel) (by decide +kernel)
theorem kc10_230 : Jvm.Cond.constantLong RX10 230 (-100000000) ∈ fv_tbl := fv_at 315 (by decide +kernel) (by decide +kernel)
theorem kc10_232 : Jvm.Cond.constantLong RX10 232 (100000000) ∈ fv_tbl := fv_at 316 (by decide +kernel) (by decide +kernel)
theorem kc10_234 : Jvm.Cond.constant RX10 234 (88888) ∈ fv_tbl := fv_at 320 (by decide +kernel) (by decide +kernel)
theorem kc10_240 : Jvm.Cond.constantLong RX10 240 (-9223372036854775808) ∈ fv_tbl := fv_at 386 (by decide +kernel) (by decide +kernel)
theorem kc11_30 : Jvm.Cond.constant RX11 30 (59049) ∈ fv_tbl := fv_at 773 (by decide +kernel) (by decide +kernel)
theorem kc11_122 : Jvm.Cond.constantLong RX11 122 (-9223372036854775808) ∈ fv_tbl := fv_at 995 (by decide +kernel) (by decide +kernel)
theorem kc11_124 : Jvm.Cond.constantLong RX11 124 (54321) ∈ fv_tbl := fv_at 905 (by decide +kernel) (by decide +kernel)
theorem kc11_148 : Jvm.Cond.constantLong RX11 148 (5) ∈ fv_tbl := fv_at 933 (by decide +kernel) (by decide +kernel)
theorem kc11_150 : Jvm.Cond.constantLong RX11 150 (11) ∈ fv_tbl := fv_at 945 (by decide +kernel) (by decide +kernel)
theorem kc11_152 : Jvm.Cond.constantLong RX11 152 (88888) ∈ fv_tbl := fv_at 959 (by decide +kernel) (by decide +kernel)
theorem kc11_158 : Jvm.Cond.constantLong RX11 158 (-100000000) ∈ fv_tbl := fv_at 954 (by decide +kernel) (by decide +kernel)
theorem kc11_160 : Jvm.Cond.constantLong RX11 160 (100000000) ∈ fv_tbl := fv_at 955 (by decide +kernel) (by decide +kernel)
theorem kc11_165 : Jvm.Cond.constant RX11 165 (59048) ∈ fv_tbl := fv_at 976 (by decide +kernel) (by decide +kernel)
theorem kc11_186 : Jvm.Cond.constantLong RX11 186 (-1000000) ∈ fv_tbl := fv_at 1000 (by decide +kernel) (by decide +kernel)
theorem kc11_188 : Jvm.Cond.constantLong RX11 188 (1000000) ∈ fv_tbl := fv_at 1001 (by decide +kernel) (by decide +kernel)
theorem kc11_194 : Jvm.Cond.constantLong RX11 194 (4) ∈ fv_tbl := fv_at 1014 (by decide +kernel) (by decide +kernel)
theorem kc11_218 : Jvm.Cond.constantLong RX11 218 (16) ∈ fv_tbl := fv_at 1060 (by decide +kernel) (by decide +kernel)
theorem kc11_241 : Jvm.Cond.constantLong RX11 241 (9999) ∈ fv_tbl := fv_at 1112 (by decide +kernel) (by decide +kernel)
theorem kc11_246 : Jvm.Cond.constantLong RX11 246 (7) ∈ fv_tbl := fv_at 1107 (by decide +kernel) (by decide +kernel)
theorem kc11_269 : Jvm.Cond.constantLong RX11 269 (255) ∈ fv_tbl := fv_at 1141 (by decide +kernel) (by decide +kernel)
theorem kc11_280 : Jvm.Cond.constantLong RX11 280 (17) ∈ fv_tbl := fv_at 1166 (by decide +kernel) (by decide +kernel)
theorem kc11_282 : Jvm.Cond.constantLong RX11 282 (31) ∈ fv_tbl := fv_at 1167 (by decide +kernel) (by decide +kernel)
theorem kc0_89 : Jvm.Cond.constantLong RX0 89 (10) ∈ fv_tbl := fv_at 463 (by decide +kernel) (by decide +kernel)
theorem kc2_62 : Jvm.Cond.constantLong RX2 62 (31) ∈ fv_tbl := fv_at 766 (by decide +kernel) (by decide +kernel)
theorem kc6_9 : Jvm.Cond.constant RX6 9 (54321) ∈ fv_tbl := fv_at 230 (by decide +kernel) (by decide +kernel)
theorem kc7_54 : Jvm.Cond.constantLong RX7 54 (31) ∈ fv_tbl := fv_at 761 (by decide +kernel) (by decide +kernel)
theorem kc8_9 : Jvm.Cond.constant RX8 9 (88889) ∈ fv_tbl := fv_at 73 (by decide +kernel) (by decide +kernel)
theorem kc8_35 : Jvm.Cond.constant RX8 35 (88888) ∈ fv_tbl := fv_at 343 (by decide +kernel) (by decide +kernel)
section FB
variable {y : fv_Y} {d mc ms : Nat} {Q : Option Value → fv_F → Option Nat → Prop} {pc : Nat} {lv : fv_L} {st : List Value} {f : fv_F} {al : Option Nat} {k t : Nat}
theorem fn_icmp_neB {a b : Bool} {off : Int} {tgt : Nat} (hd : decode y.2.1 pc = .ok (.if_icmp .ne off, 3)) (ht : (pc : Int) + off = (tgt : Int)) (kt : a ≠ b → fv_At y d mc ms Q tgt lv st f al k t) (kf : a = b → fv_At y d mc ms Q (pc + 3) lv st f al k t) : fv_At y d mc ms Q pc lv (.int (bI b) :: .int (bI a) :: st) f al k t :=
  fx_icmp_ne hd ht (fun h => kt (fun e => h (by rw [e]))) (fun h => kf (by cases a <;> cases b <;> first | rfl | exact absurd h (by decide)))
theorem fn_icmp_eqB {a b : Bool} {off : Int} {tgt : Nat} (hd : decode y.2.1 pc = .ok (.if_icmp .eq off, 3)) (ht : (pc : Int) + off = (tgt : Int)) (kt : a = b → fv_At y d mc ms Q tgt lv st f al k t) (kf : a ≠ b → fv_At y d mc ms Q (pc + 3) lv st f al k t) : fv_At y d mc ms Q pc lv (.int (bI b) :: .int (bI a) :: st) f al k t :=
  fx_icmp_eq hd ht (fun h => kt (by cases a <;> cases b <;> first | rfl | exact absurd h (by decide))) (fun h => kf (fun e => h (by rw [e])))
end FB
section FM
variable {y : fv_Y} {d : Nat} {Q : Option Value → fv_F → Option Nat → Prop} {pc : Nat} {lv : fv_L} {st : List Value} {f : fv_F} {al : Option Nat}
theorem fx_mmin {idx n : Nat} {a b : Nat} (hd : decode y.2.1 pc = .ok (.invokestatic idx, 3)) (hp : fv_mS y.1.cls idx YJ9_min n) (ha : a < 2147483648) (hb : b < 2147483648) (hdep : 0 < d) (hcat : (st.map fun v => v.category).sum ≤ 8) (kk : fv_At y d 0 0 Q (pc + 3) lv (.int (nI (min a b)) :: st) f al 0 0) : fv_At y d 0 0 Q pc lv (.int (nI b) :: .int (nI a) :: st) f al 0 0 := by
  intro p l e_ s m args below meth c D dA N A G H locs ls hR hS hO hl
  obtain ⟨hx, hbb, hr, hlk, hml, hown, hts, ⟨hK, hNq⟩, hnm⟩ := id G
  obtain ⟨⟨h1, h2, h3, h4, h5⟩, h6⟩ := hp
  refine va_mmin (R := fv_rm d 0 0) hx hbb (hml.trans hl.1.symm) hown (hts _ h1) (hts _ h6) (hts _ h2) (hts _ h3) hdep (by rw [fv_catS]; show _ ≤ 64 * d; omega) (Nat.le_refl _) (Nat.le_refl _) hd ?_
  have e : (if nI b < nI a then nI b else nI a) = nI (min a b) := by
    by_cases h : b < a
    · rw [if_pos ((nI_ltI hb ha).mpr h), Nat.min_eq_right (by omega)]
    · rw [if_neg (fun q => h ((nI_ltI hb ha).mp q)), Nat.min_eq_left (by omega)]
  rw [e]
  exact kk p l e_ s m args below meth c D dA N A G H locs ls hR hS hO hl
theorem fx_mmax {idx n : Nat} {a b : Nat} (hd : decode y.2.1 pc = .ok (.invokestatic idx, 3)) (hp : fv_mS y.1.cls idx YJ9_max n) (ha : a < 2147483648) (hb : b < 2147483648) (hdep : 0 < d) (hcat : (st.map fun v => v.category).sum ≤ 8) (kk : fv_At y d 0 0 Q (pc + 3) lv (.int (nI (max a b)) :: st) f al 0 0) : fv_At y d 0 0 Q pc lv (.int (nI b) :: .int (nI a) :: st) f al 0 0 := by
  intro p l e_ s m args below meth c D dA N A G H locs ls hR hS hO hl
  obtain ⟨hx, hbb, hr, hlk, hml, hown, hts, ⟨hK, hNq⟩, hnm⟩ := id G
  obtain ⟨⟨h1, h2, h3, h4, h5⟩, h6⟩ := hp
  refine va_mmax (R := fv_rm d 0 0) hx hbb (hml.trans hl.1.symm) hown (hts _ h1) (hts _ h6) (hts _ h2) (hts _ h3) hdep (by rw [fv_catS]; show _ ≤ 64 * d; omega) (Nat.le_refl _) (Nat.le_refl _) hd ?_
  have e : (if nI a < nI b then nI b else nI a) = nI (max a b) := by
    by_cases h : a < b
    · rw [if_pos ((nI_ltI ha hb).mpr h), Nat.max_eq_right (by omega)]
    · rw [if_neg (fun q => h ((nI_ltI ha hb).mp q)), Nat.max_eq_left (by omega)]
  rw [e]
  exact kk p l e_ s m args below meth c D dA N A G H locs ls hR hS hO hl
end FM
theorem nI_or (a b : Nat) : nI a ||| nI b = nI (a ||| b) := by
  unfold nI
  rw [← Int32.toBitVec_inj, Int32.toBitVec_or]
  simp only [Int32.toBitVec_ofNat', BitVec.ofNat_or]
theorem nI_and (a b : Nat) : nI a &&& nI b = nI (a &&& b) := by
  unfold nI
  rw [← Int32.toBitVec_inj, Int32.toBitVec_and]
  simp only [Int32.toBitVec_ofNat', BitVec.ofNat_and]
theorem nI_shl1 : ∀ d, d < 31 → nI 1 <<< (nI d &&& 31) = nI (2 ^ d) := by decide +kernel
theorem nI_shl2 : ∀ d, d < 30 → nI 2 <<< (nI d &&& 31) = nI (2 ^ (d + 1)) := by decide +kernel
def fat (a k : Nat) : Nat := a / 10 ^ k % 10
theorem fat_lt (a k : Nat) : fat a k < 10 := Nat.mod_lt _ (by decide)
