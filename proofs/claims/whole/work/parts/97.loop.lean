def lvs (E : LE) (i : Nat) : List (Nat × Value) := [(0, .ref E.b), (1, .ref E.N1), (2, .ref E.N2), (3, .int (nI i))]
section LL
variable {E : LE} {k t i : Nat} {f1 f2 : fv_F}
/-- the law's end: all answers were alike -/
theorem la_end {lv : List (Nat × Value)} (hE : E.ok) (hkt : k ≤ 600000 ∧ t ≤ 7302250) : lA E k t 1320 lv [] f1 f2 := by
  refine la_iconst hE dL_law_1320 (v := 1) (by decide) ?_
  intro H locs ls h1 h2 hS hl
  refine va_forget (fun q hq => hS.2.2 q hq) (W.widen hkt.1 hkt.2 ?_)
  exact lw_ret (LE.hx hE) (LE.hb hE) hE.1.2.2.1 hE.1.2.2.2.2.2.2.2.2.1 dL_law_1321
theorem law_at (hE : E.ok) (hw : wlds f1 f2) (hi : i + 6 ≤ E.L) (hkt : k ≤ 600000 ∧ t ≤ 7302250) (kk : ∀ g1 g2, wlds g1 g2 → lA E k t 1314 (lvs E i) [] g1 g2) : lA E k t 27 (lvs E i) [] f1 f2 := by
  have h0 : (0, Value.ref E.b) ∈ lvs E i := List.mem_cons_self
  have h1 : (1, Value.ref E.N1) ∈ lvs E i := List.mem_cons_of_mem _ List.mem_cons_self
  have h2 : (2, Value.ref E.N2) ∈ lvs E i := List.mem_cons_of_mem _ (List.mem_cons_of_mem _ List.mem_cons_self)
  have h3 : (3, Value.int (nI i)) ∈ lvs E i := List.mem_cons_of_mem _ (List.mem_cons_of_mem _ (List.mem_cons_of_mem _ List.mem_cons_self))
  refine la_aload_n hE dL_law_27 rfl h0 ?_
  refine la_iload_n hE dL_law_28 rfl h3 ?_
  refine la_sld hE dL_law_29 rfl (by omega) ?_
  refine la_bipush hE dL_law_30 (v := nI 63) (by decide) ?_
  refine la_iand hE dL_law_32 ?_
  generalize E.xs i &&& nI 63 = x
  by_cases hx : x.toInt < 0 ∨ 32 < x.toInt
  · exact la_tableOut hE dL_law_33 hx (tgt := 1314) (by decide) (kk _ _ hw)
  · have hy : x.toInt = 0 ∨ x.toInt = 1 ∨ x.toInt = 2 ∨ x.toInt = 3 ∨ x.toInt = 4 ∨ x.toInt = 5 ∨ x.toInt = 6 ∨ x.toInt = 7 ∨ x.toInt = 8 ∨ x.toInt = 9 ∨ x.toInt = 10 ∨ x.toInt = 11 ∨ x.toInt = 12 ∨ x.toInt = 13 ∨ x.toInt = 14 ∨ x.toInt = 15 ∨ x.toInt = 16 ∨ x.toInt = 17 ∨ x.toInt = 18 ∨ x.toInt = 19 ∨ x.toInt = 20 ∨ x.toInt = 21 ∨ x.toInt = 22 ∨ x.toInt = 23 ∨ x.toInt = 24 ∨ x.toInt = 25 ∨ x.toInt = 26 ∨ x.toInt = 27 ∨ x.toInt = 28 ∨ x.toInt = 29 ∨ x.toInt = 30 ∨ x.toInt = 31 ∨ x.toInt = 32 := by omega
    rcases hy with hy | hy | hy | hy | hy | hy | hy | hy | hy | hy | hy | hy | hy | hy | hy | hy | hy | hy | hy | hy | hy | hy | hy | hy | hy | hy | hy | hy | hy | hy | hy | hy | hy
    · exact la_tableIn hE dL_law_33 (by omega) (by omega) (off := 147) (by rw [hy]; rfl) (tgt := 180) (by decide) (c_length hE hw h0 h1 h2 h3 hi hkt kk)
    · exact la_tableIn hE dL_law_33 (by omega) (by omega) (off := 170) (by rw [hy]; rfl) (tgt := 203) (by decide) (c_exchange hE hw h0 h1 h2 h3 hi hkt kk)
    · exact la_tableIn hE dL_law_33 (by omega) (by omega) (off := 203) (by rw [hy]; rfl) (tgt := 236) (by decide) (c_inverse hE hw h0 h1 h2 h3 hi hkt kk)
    · exact la_tableIn hE dL_law_33 (by omega) (by omega) (off := 226) (by rw [hy]; rfl) (tgt := 259) (by decide) (c_orders hE hw h0 h1 h2 h3 hi hkt kk)
    · exact la_tableIn hE dL_law_33 (by omega) (by omega) (off := 259) (by rw [hy]; rfl) (tgt := 292) (by decide) (c_step hE hw h0 h1 h2 h3 hi hkt kk)
    · exact la_tableIn hE dL_law_33 (by omega) (by omega) (off := 302) (by rw [hy]; rfl) (tgt := 335) (by decide) (c_blank hE hw h0 h1 h2 h3 hi hkt kk)
    · exact la_tableIn hE dL_law_33 (by omega) (by omega) (off := 325) (by rw [hy]; rfl) (tgt := 358) (by decide) (c_lose hE hw h0 h1 h2 h3 hi hkt kk)
    · exact la_tableIn hE dL_law_33 (by omega) (by omega) (off := 348) (by rw [hy]; rfl) (tgt := 381) (by decide) (c_add hE hw h0 h1 h2 h3 hi hkt kk)
    · exact la_tableIn hE dL_law_33 (by omega) (by omega) (off := 421) (by rw [hy]; rfl) (tgt := 454) (by decide) (c_terms hE hw h0 h1 h2 h3 hi hkt kk)
    · exact la_tableIn hE dL_law_33 (by omega) (by omega) (off := 444) (by rw [hy]; rfl) (tgt := 477) (by decide) (c_exponents hE hw h0 h1 h2 h3 hi hkt kk)
    · exact la_tableIn hE dL_law_33 (by omega) (by omega) (off := 477) (by rw [hy]; rfl) (tgt := 510) (by decide) (c_number hE hw h0 h1 h2 h3 hi hkt kk)
    · exact la_tableIn hE dL_law_33 (by omega) (by omega) (off := 511) (by rw [hy]; rfl) (tgt := 544) (by decide) (c_sum hE hw h0 h1 h2 h3 hi hkt kk)
    · exact la_tableIn hE dL_law_33 (by omega) (by omega) (off := 564) (by rw [hy]; rfl) (tgt := 597) (by decide) (c_product hE hw h0 h1 h2 h3 hi hkt kk)
    · exact la_tableIn hE dL_law_33 (by omega) (by omega) (off := 607) (by rw [hy]; rfl) (tgt := 640) (by decide) (c_turned hE hw h0 h1 h2 h3 hi hkt kk)
    · exact la_tableIn hE dL_law_33 (by omega) (by omega) (off := 650) (by rw [hy]; rfl) (tgt := 683) (by decide) (c_difference hE hw h0 h1 h2 h3 hi hkt kk)
    · exact la_tableIn hE dL_law_33 (by omega) (by omega) (off := 693) (by rw [hy]; rfl) (tgt := 726) (by decide) (c_polynomial hE hw h0 h1 h2 h3 hi hkt kk)
    · exact la_tableIn hE dL_law_33 (by omega) (by omega) (off := 726) (by rw [hy]; rfl) (tgt := 759) (by decide) (c_part hE hw h0 h1 h2 h3 hi hkt kk)
    · exact la_tableIn hE dL_law_33 (by omega) (by omega) (off := 760) (by rw [hy]; rfl) (tgt := 793) (by decide) (c_constant hE hw h0 h1 h2 h3 hi hkt kk)
    · exact la_tableIn hE dL_law_33 (by omega) (by omega) (off := 804) (by rw [hy]; rfl) (tgt := 837) (by decide) (c_same hE hw h0 h1 h2 h3 hi hkt kk)
    · exact la_tableIn hE dL_law_33 (by omega) (by omega) (off := 837) (by rw [hy]; rfl) (tgt := 870) (by decide) (c_strip hE hw h0 h1 h2 h3 hi hkt kk)
    · exact la_tableIn hE dL_law_33 (by omega) (by omega) (off := 900) (by rw [hy]; rfl) (tgt := 933) (by decide) (c_fillings hE hw h0 h1 h2 h3 hi hkt kk)
    · exact la_tableIn hE dL_law_33 (by omega) (by omega) (off := 963) (by rw [hy]; rfl) (tgt := 996) (by decide) (c_orderOf hE hw h0 h1 h2 h3 hi hkt kk)
    · exact la_tableIn hE dL_law_33 (by omega) (by omega) (off := 1006) (by rw [hy]; rfl) (tgt := 1039) (by decide) (c_begin hE hw h0 h1 h2 h3 hi hkt kk)
    · exact la_tableIn hE dL_law_33 (by omega) (by omega) (off := 1039) (by rw [hy]; rfl) (tgt := 1072) (by decide) (c_condition hE hw h0 h1 h2 h3 hi hkt kk)
    · exact la_tableIn hE dL_law_33 (by omega) (by omega) (off := 1062) (by rw [hy]; rfl) (tgt := 1095) (by decide) (c_meeting hE hw h0 h1 h2 h3 hi hkt kk)
    · exact la_tableIn hE dL_law_33 (by omega) (by omega) (off := 1076) (by rw [hy]; rfl) (tgt := 1109) (by decide) (c_field hE hw h0 h1 h2 h3 hi hkt kk)
    · exact la_tableIn hE dL_law_33 (by omega) (by omega) (off := 1099) (by rw [hy]; rfl) (tgt := 1132) (by decide) (c_rod hE hw h0 h1 h2 h3 hi hkt kk)
    · exact la_tableIn hE dL_law_33 (by omega) (by omega) (off := 1142) (by rw [hy]; rfl) (tgt := 1175) (by decide) (c_drop hE hw h0 h1 h2 h3 hi hkt kk)
    · exact la_tableIn hE dL_law_33 (by omega) (by omega) (off := 1165) (by rw [hy]; rfl) (tgt := 1198) (by decide) (c_meet hE hw h0 h1 h2 h3 hi hkt kk)
    · exact la_tableIn hE dL_law_33 (by omega) (by omega) (off := 1198) (by rw [hy]; rfl) (tgt := 1231) (by decide) (c_lines hE hw h0 h1 h2 h3 hi hkt kk)
    · exact la_tableIn hE dL_law_33 (by omega) (by omega) (off := 1221) (by rw [hy]; rfl) (tgt := 1254) (by decide) (c_points hE hw h0 h1 h2 h3 hi hkt kk)
    · exact la_tableIn hE dL_law_33 (by omega) (by omega) (off := 1244) (by rw [hy]; rfl) (tgt := 1277) (by decide) (c_count hE hw h0 h1 h2 h3 hi hkt kk)
    · exact la_tableIn hE dL_law_33 (by omega) (by omega) (off := 1267) (by rw [hy]; rfl) (tgt := 1300) (by decide) (c_digest hE hw h0 h1 h2 h3 hi hkt kk)
theorem law_loop (hE : E.ok) (hkt : k ≤ 600000 ∧ t ≤ 7302250) : ∀ n i (f1 f2 : fv_F), E.L + 1 ≤ i + n → i ≤ E.L → wlds f1 f2 → lA E k t 18 (lvs E i) [] f1 f2 := by
  intro n
  induction n with
  | zero => intro i f1 f2 h1 h2 _; omega
  | succ n ih =>
    intro i f1 f2 hn hiL hw
    have hL := hE.2.2.2
    have h0 : (0, Value.ref E.b) ∈ lvs E i := List.mem_cons_self
    have h3 : (3, Value.int (nI i)) ∈ lvs E i := List.mem_cons_of_mem _ (List.mem_cons_of_mem _ (List.mem_cons_of_mem _ List.mem_cons_self))
    refine la_iload_n hE dL_law_18 rfl h3 ?_
    refine la_aload_n hE dL_law_19 rfl h0 ?_
    refine la_slen hE dL_law_20 ?_
    refine la_bipush hE dL_law_21 (v := nI 6) (by decide) ?_
    refine la_isub hE dL_law_23 ?_
    have e : nI E.L - nI 6 = iI ((E.L : Int) - 6) := (iI_sub (E.L : Int) 6)
    have e2 : nI i = iI (i : Int) := rfl
    refine la_icmp_gt hE dL_law_24 (tgt := 1320) (by decide) (fun _ => la_end hE hkt) (fun h => ?_)
    rw [e, e2, iI_lt (by omega) (by omega) (by omega) (by omega)] at h
    refine law_at hE hw (by omega) hkt (fun g1 g2 hg => ?_)
    refine la_iinc hE dL_law_1314 (lv2 := lvs E (i + 6)) h3 (v := nI (i + 6)) (by rw [← nI_add]; rfl) (by decide) (fun q hq => ?_) ?_
    · rcases List.mem_cons.mp hq with rfl | hq
      · exact Or.inr ⟨List.mem_cons_self, show (0 : Nat) ≠ 3 by decide, fun w => absurd w.1 (show ¬ ((0 : Nat) + 1 = 3) by decide)⟩
      · rcases List.mem_cons.mp hq with rfl | hq
        · exact Or.inr ⟨List.mem_cons_of_mem _ List.mem_cons_self, show (1 : Nat) ≠ 3 by decide, fun w => absurd w.1 (show ¬ ((1 : Nat) + 1 = 3) by decide)⟩
        · rcases List.mem_cons.mp hq with rfl | hq
          · refine Or.inr ⟨List.mem_cons_of_mem _ (List.mem_cons_of_mem _ List.mem_cons_self), show (2 : Nat) ≠ 3 by decide, fun w => ?_⟩
            exact absurd w.2 (by show ¬ ((1 : Nat) = 2); decide)
          · exact Or.inl (List.mem_singleton.mp hq)
    · exact la_goto hE dL_law_1317 (tgt := 18) (by decide) (ih (i + 6) g1 g2 (by omega) (by omega) hg)
end LL
