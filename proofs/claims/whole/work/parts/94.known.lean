section KN
variable {s : State} {args : Array Value}
theorem kn_q0 : Cond.methodLinkNest "MeetHouse" 17 yX0_init "MeetHouse" ∈ lw_tbl := List.mem_of_getElem? (i := 63) (by decide +kernel)
theorem kn_q1 : Cond.methodLinkNest "MeetHouse$Algebra" 11 yX8_init "MeetHouse" ∈ lw_tbl := List.mem_of_getElem? (i := 69) (by decide +kernel)
theorem kn_q2 : Cond.methodLinkNest "MeetHouse$Pot" 22 yX7_init "MeetHouse" ∈ lw_tbl := List.mem_of_getElem? (i := 76) (by decide +kernel)
theorem kn_q3 : Cond.methodLinkNest "MeetHouse$Algebra" 20 yX7_init "MeetHouse" ∈ lw_tbl := List.mem_of_getElem? (i := 113) (by decide +kernel)
theorem kn_q4 : Cond.methodLinkNest "MeetHouse" 24 yX2_init "MeetHouse" ∈ lw_tbl := List.mem_of_getElem? (i := 126) (by decide +kernel)
theorem kn_q5 : Cond.methodLinkNest "MeetHouse$Conditions" 11 yX4_init "MeetHouse" ∈ lw_tbl := List.mem_of_getElem? (i := 132) (by decide +kernel)
theorem kn_q6 : Cond.methodLinkNest "MeetHouse$Space" 17 yX5_init "MeetHouse" ∈ lw_tbl := List.mem_of_getElem? (i := 188) (by decide +kernel)
theorem kn_q7 : Cond.methodLinkNest "MeetHouse" 36 yX7_init "MeetHouse" ∈ lw_tbl := List.mem_of_getElem? (i := 209) (by decide +kernel)
theorem kn_q8 : Cond.methodLinkNest "MeetHouse" 54 yX6_ofLength "MeetHouse" ∈ lw_tbl := List.mem_of_getElem? (i := 261) (by decide +kernel)
theorem kn_q9 : Cond.methodLinkNest "MeetHouse$Pot" 68 yX10_isBeyond "MeetHouse" ∈ lw_tbl := List.mem_of_getElem? (i := 357) (by decide +kernel)
theorem kn_q10 : Cond.methodLinkNest "MeetHouse$Algebra" 124 yX10_refusal "MeetHouse" ∈ lw_tbl := List.mem_of_getElem? (i := 483) (by decide +kernel)
theorem kn_q11 : Cond.methodLinkNest "MeetHouse$Conditions" 42 yX1_gather "MeetHouse" ∈ lw_tbl := List.mem_of_getElem? (i := 590) (by decide +kernel)
theorem kn_ovP : Cond.arrayOver (.object "MeetHouse$Polynomial") ∈ lw_tbl := List.mem_of_getElem? (i := 60) (by decide +kernel)
theorem kn_ovL : Cond.arrayOver (.object "MeetHouse$Line") ∈ lw_tbl := List.mem_of_getElem? (i := 186) (by decide +kernel)
theorem kn_ovI : Cond.arrayOver (.array .int) ∈ lw_tbl := List.mem_of_getElem? (i := 137) (by decide +kernel)
theorem kn_n (hts : ∀ w ∈ lw_tbl, w.before args s = true) : ∀ q ∈ fv_nq, va_Nw (.methodLinkNest q.1 q.2.1 q.2.2 "MeetHouse") s := by
  intro q hq
  have h : Cond.methodLinkNest q.1 q.2.1 q.2.2 "MeetHouse" ∈ lw_tbl := by
    simp only [fv_nq, List.mem_cons, List.not_mem_nil, or_false] at hq
    rcases hq with rfl | rfl | rfl | rfl | rfl | rfl | rfl | rfl | rfl | rfl | rfl | rfl
    · exact kn_q0
    · exact kn_q1
    · exact kn_q2
    · exact kn_q3
    · exact kn_q4
    · exact kn_q5
    · exact kn_q6
    · exact kn_q7
    · exact kn_q8
    · exact kn_q9
    · exact kn_q10
    · exact kn_q11
  exact va_Nw.of rfl (hts _ h)
theorem kn_o (hts : ∀ w ∈ lw_tbl, w.before args s = true) : fo_K s := ⟨va_AO.of (hts _ kn_ovP), va_AO.of (hts _ kn_ovL), hts _ kn_ovI⟩
theorem kn_a {ty : FieldType} {cA : ClassId} {kA : Class} {comp : ClassId} (h2 : s.vm.classes[cA]? = some kA) (h3 : kA.kind = .array comp ty) : ArrOfT s cA ty := fun _ _ => ⟨fun k h => (by cases h), kA, h2, comp, h3⟩
theorem kn_k (hts : ∀ w ∈ lw_tbl, w.before args s = true) : ∃ (D : va_G) (dA : Nat → ClassId), fv_K D dA s := by
  have htf : ∀ w ∈ fv_tbl, w.before args s = true := fun w hw => hts w (List.mem_filter.mp hw).1
  obtain ⟨c0, i0, k0⟩ := u_known (C := RX0) (T := TX0) (N := 3) (n := 3) htf iX0 (htf _ nw10_15.2.1)
  obtain ⟨c1, i1, k1⟩ := u_known (C := RX2) (T := TX2) (N := 8) (n := 8) htf iX2 (htf _ nw10_22.2.1)
  obtain ⟨c2, i2, k2⟩ := u_known (C := RX4) (T := TX4) (N := 5) (n := 5) htf iX4 (htf _ nw2_9.2.1)
  obtain ⟨c3, i3, k3⟩ := u_known (C := RX5) (T := TX5) (N := 2) (n := 2) htf iX5 (htf _ nw9_11.2.1)
  obtain ⟨c4, i4, k4⟩ := u_known (C := RX7) (T := TX7) (N := 4) (n := 4) htf iX7 (htf _ nw10_9.2.1)
  obtain ⟨c5, i5, k5⟩ := u_known (C := RX8) (T := TX8) (N := 5) (n := 5) htf iX8 (htf _ nw0_9.2.1)
  obtain ⟨c6, i6, k6⟩ := u_known (C := RX9) (T := TX9) (N := 3) (n := 3) htf iX9 (htf _ nw10_29.2.1)
  obtain ⟨c7, i7, k7⟩ := u_known (C := RX10) (T := TX10) (N := 4) (n := 4) htf iX10 (htf _ nwL_7.2.1)
  obtain ⟨c8, i8, k8⟩ := u_known (C := RX11) (T := TX11) (N := 38) (n := 38) htf iX11 (htf _ nwL_10.2.1)
  obtain ⟨dC, dI, hKc⟩ : ∃ (dC : Nat → ClassId) (dI : Nat → Nat → Nat), ∀ (k : Nat) (q : vw_C), fv_cl[k]? = some q → u_Kn s q.1 q.2.1 q.2.2 (dC k) (dI k) := by
    refine ⟨fun k => match k with | 0 => c0 | 1 => c1 | 2 => c2 | 3 => c3 | 4 => c4 | 5 => c5 | 6 => c6 | 7 => c7 | _ => c8, fun k => match k with | 0 => i0 | 1 => i1 | 2 => i2 | 3 => i3 | 4 => i4 | 5 => i5 | 6 => i6 | 7 => i7 | _ => i8, ?_⟩
    intro k q hq
    match k, hq with
    | 0, hq => cases hq; exact k0
    | 1, hq => cases hq; exact k1
    | 2, hq => cases hq; exact k2
    | 3, hq => cases hq; exact k3
    | 4, hq => cases hq; exact k4
    | 5, hq => cases hq; exact k5
    | 6, hq => cases hq; exact k6
    | 7, hq => cases hq; exact k7
    | 8, hq => cases hq; exact k8
    | k + 9, hq => simp [fv_cl] at hq
  obtain ⟨a0, m0, p0, f0, g0, h0⟩ := Cond.arrayClass_spec (htf _ aI_w)
  obtain ⟨a1, m1, p1, f1, g1, h1⟩ := Cond.arrayClass_spec (htf _ aJ_w)
  obtain ⟨a2, m2, p2, f2, g2, h2⟩ := Cond.arrayClass_spec (htf _ aZ_w)
  obtain ⟨p3, a3, m3, e3, -, g3, h3, f3⟩ := Cond.arrayOver_spec (hts _ kn_ovP)
  obtain ⟨p4, a4, m4, e4, -, g4, h4, f4⟩ := Cond.arrayOver_spec (hts _ kn_ovL)
  obtain ⟨p5, a5, m5, e5, -, g5, h5, f5⟩ := arrayOverA_spec (hts _ kn_ovI)
  refine ⟨(dC, dI), fun k => match k with | 0 => a0 | 1 => a1 | 2 => a2 | 3 => a3 | 4 => a4 | _ => a5, ⟨hKc, ?_⟩, kn_n hts⟩
  intro k q hq
  match k, hq with
  | 0, hq => cases hq; exact ⟨kn_a g0 h0, f0⟩
  | 1, hq => cases hq; exact ⟨kn_a g1 h1, f1⟩
  | 2, hq => cases hq; exact ⟨kn_a g2 h2, f2⟩
  | 3, hq => cases hq; exact ⟨kn_a g3 h3, m3, p3, g3, h3, e3, f3⟩
  | 4, hq => cases hq; exact ⟨kn_a g4 h4, m4, p4, g4, h4, e4, f4⟩
  | 5, hq => cases hq; exact ⟨kn_a g5 h5, f5⟩
  | k + 6, hq => simp [fv_tys] at hq
end KN
