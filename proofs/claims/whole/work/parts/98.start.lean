/-! ===== the law's start ===== -/
theorem wl_0 {G2 : Nat → Nat → Int32} (h : ∀ i, i ≠ 29 → i ≠ 30 → G2 i = gM i) (hq : msq G2 2) : wlds (fw cT gC lC) (fw mT G2 lM) := by
  refine ⟨fun _ => [], fun _ => false, 2, 2, [], 2, tF, fun _ _ => 0, fun _ => 0, fun _ => 0, gC, lC, G2, lM, rfl, rfl, ⟨?_, ?_, ⟨by decide, by decide, by decide, by decide⟩, ?_, ?_⟩, ⟨?_, ?_, ?_, ?_⟩, ⟨?_, ?_, hq, ?_⟩⟩
  · intro s _ ht; cases ht
  · intro s _ ht; cases ht
  · intro j hj; exact absurd hj (Nat.not_lt_zero _)
  · intro r _ ht; cases ht
  · intro s hs
    exact ⟨Nat.zero_le _, gC_0 (by omega) (by omega) 2, gC_0 (by omega) (by omega) 3, fun j hj => absurd hj (Nat.not_lt_zero _)⟩
  · exact ⟨fun _ _ => rfl, fun b _ => gC_0 (by decide) (by decide) b⟩
  · exact ⟨rfl, rfl, rfl, Nat.zero_le _, fun j hj => absurd hj (Nat.not_lt_zero _)⟩
  · exact ⟨rfl, Or.inl rfl, fun r hr => gC_0 (by omega) (by omega) 1, fun r hr ht => by cases ht⟩
  · intro s hs
    refine ⟨?_, fun ht => by cases ht⟩
    rw [h 3 (by decide) (by decide)]
    exact gM_0 (by decide) s
  · refine ⟨?_, ?_, ?_, Nat.zero_le _, fun j hj => absurd hj (Nat.not_lt_zero _)⟩
    · rw [h 0 (by decide) (by decide)]; rfl
    · rw [h 0 (by decide) (by decide)]; rfl
    · rw [h 0 (by decide) (by decide)]; rfl
  · refine ⟨fun r hr => ?_, fun r hr ht => by cases ht⟩
    rw [h 24 (by decide) (by decide)]
    exact gM_0 (by decide) r
section LS
variable {E : LE} {k t pc : Nat} {st : List Value}
theorem lb_new {idx ci nf : Nat} {C : String} {T : u_T} {ty0 : Nat → FieldType} {fs : List Value} {N : Nat} {A : Nat → Prop} {H : Heap} {locs : List Loc} {ls : Array Slot} {Z : State → Prop} (hE : E.ok) (hd : decode cL_law pc = .ok (.new idx, 3)) (hc : fv_cls ci C T nf ty0) (hn : fv_nw RL idx C nf) (hfs : (∀ j, j < nf → defaultValue (ty0 j) = vp_V fs j) ∧ ∀ N, fs.map (fv_v N) = fs) (hz : H.size = N) (hA : ∀ q, N ≤ q → A q) (hk : k + 1 ≤ 600000) (ht : t + nf ≤ 7302250)
    (kk : ∀ H1 : Heap, fv_R E.D E.dA N A (fun i => if i = 0 then some (.inr (ci, fs)) else none) H1 → fv_O N A (some 1) H1 → H1.size = N + 1 → (∀ q : Nat, q < H.size → H1[q]? = H[q]?) → W E.p E.l E.e room_1 E.s E.m #[Value.ref E.b] E.below E.meth E.c H1 locs (k + 1) (t + nf) Z (F0 E.m (pc + 3) ls (.ref N :: st))) : W E.p E.l E.e room_1 E.s E.m #[Value.ref E.b] E.below E.meth E.c H locs k t Z (F0 E.m pc ls st) := by
  obtain ⟨hc1, hin, hty, hnam⟩ := hc
  have hts := LE.hts hE
  have hKn := hE.2.1.1.1 ci _ hc1
  refine W.newcK (LE.hx hE) (LE.hb hE) (LE.hown hE) (hts _ hn.1) (hts _ hn.2.1) (hts _ hn.2.2) rfl hd hk ht hKn.2.1 rfl fun H1 kC hkC e1 z1 o1 => ?_
  have hR : fv_R E.D E.dA N A (fun i => if i = 0 then some (.inr (ci, fs)) else none) H1 := by
    intro i b hi
    by_cases q : i = 0
    · have hi2 : (if i = 0 then some (Sum.inr (ci, fs)) else none : Option fv_C) = some b := hi
      rw [if_pos q] at hi2
      cases hi2
      refine ⟨hA _ (Nat.le_add_right _ _), ?_⟩
      rw [q, Nat.add_zero, ← hz]
      show va_at E.D fv_cl (H.size, .inr (ci, fs.map (fv_v H.size))) H1
      rw [hfs.2]
      exact ⟨_, hc1, (u_born ty0 hts hin hKn hkC e1 hty).to hfs.1⟩
    · have hi2 : (if i = 0 then some (Sum.inr (ci, fs)) else none : Option fv_C) = some b := hi
      rw [if_neg q] at hi2
      cases hi2
  have z2 : H1.size = N + 1 := by omega
  have kk2 := kk H1 hR (fun n hn => by cases hn; exact ⟨z2, hA⟩) z2 o1
  rw [hz]
  exact kk2
theorem lb_behind {N mc ms : Nat} {A : Nat → Prop} {a : Array Value} {Q2 : Option Value → fv_F → Option Nat → Prop} {rest : List Value} {H : Heap} {locs : List Loc} {ls : Array Slot}
    (hr : va_Run E.p E.l E.e room_1 E.s E.m #[Value.ref E.b] E.below E.meth E.c H locs k t mc ms (F0 E.m pc ls st) rest (fv_Qc E.D E.dA N A Q2 a) A) (hAA : ∀ q, A q → E.A q) (hS : va_S E.A E.s.heap H locs)
    (kk : ∀ (r : Option Value) (g : fv_F) (al2 : Option Nat) (H1 : Heap) (locs1 : List Loc), Q2 r g al2 → fv_R E.D E.dA N A g H1 → fv_O N A al2 H1 → va_S E.A E.s.heap H1 locs1 → (∀ q, q < H.size → ¬ A q → H1[q]? = H[q]?) →
      W E.p E.l E.e room_1 E.s E.m #[Value.ref E.b] E.below E.meth E.c H1 locs1 (k + mc) (t + ms) (lw_Z E.below #[Value.ref E.b] E.s) (F0 E.m (pc + 3) ls ((r.map (fv_v N)).toList ++ rest))) :
    W E.p E.l E.e room_1 E.s E.m #[Value.ref E.b] E.below E.meth E.c H locs k t (lw_Z E.below #[Value.ref E.b] E.s) (F0 E.m pc ls st) := by
  intro T hT X
  obtain ⟨v, st₀, t', T', L, h0, X', hL, e1, e2, ⟨r, f2', al2, hv, hq, hR2, hO2, hz2, hk⟩, stp⟩ := hr T hT X
  cases hv
  rw [h0] at hz2 hk
  rw [← e1] at hR2 hO2 hz2 hk
  have hS2 : va_S E.A E.s.heap T'.heap (locs ++ L) := ⟨Nat.le_trans hS.1 hz2, fun q w1 w2 => by
      rw [hk q (Nat.lt_of_lt_of_le w1 hS.1) (fun w => w2 (hAA _ w))]
      exact hS.2.1 q w1 w2, fun q hq => by
    rcases List.mem_append.mp hq with h | h
    · exact hS.2.2 q h
    · exact hAA _ (hL q h)⟩
  obtain ⟨t2, a1, b1⟩ := kk r f2' al2 T'.heap (locs ++ L) hq hR2 hO2 hS2 hk T' rfl X'
  exact ⟨t2, stp t2 a1, b1⟩
theorem cT_none {i : Nat} (h : ¬ i < 87) : fw cT gC lC i = none := by
  unfold fw cT
  rw [List.getElem?_eq_none (by show 87 ≤ i; omega)]
  rfl
theorem la_start (hE : E.ok) : W E.p E.l E.e room_1 E.s E.m #[Value.ref E.b] E.below E.meth E.c E.s.heap [] 0 0 (lw_Z E.below #[Value.ref E.b] E.s) (entryFrame E.m ([Value.ref E.b] : List Value).toArray 4) := by
  have hx := LE.hx hE
  have hb := LE.hb hE
  have hts := LE.hts hE
  have hAA : ∀ q, E.A2 q → E.A q := fun q h => Nat.le_trans (Nat.le_add_right _ _) h
  have hl := lv_entry ([.ref E.b]) (n := 4) (Nat.le_of_ble_eq_true rfl)
  rw [lg_entry_eq]
  generalize (lg_sl ([.ref E.b]) ++ List.replicate (4 - (lg_sl ([.ref E.b])).length) Slot.unset).toArray = ls at hl ⊢
  have hl : lv_has ls 4 [(0, .ref E.b)] := hl
  have hS : va_S E.A E.s.heap E.s.heap [] := va_S.rf
  refine lb_new (N := E.N1) (A := E.A) hE dL_law_0 fv_c7 nwL_7 dfX10_ok rfl (fun _ h => h) (by decide) (by decide) (fun H1 hR hO hz o1 => ?_)
  have hS := fv_Spush hS (H1 := H1) (by rw [hz]; exact Nat.le_succ _) o1
  refine lv_dup hx hb dL_law_3 rfl ?_
  obtain ⟨⟨g1, g2, g3, g4, g5⟩, g6, g7, g8⟩ := lkL_9
  have cw := callB_of (R := room_1) (rm := fv_rm 4 86 108230) 0 hts (fv_wsG g3) rfl rfl rfl (hts _ g2) (hts _ g1) g4 ⟨by decide, by decide⟩
  rw [g8] at cw
  refine lb_behind (rest := [.ref E.N1]) (va_runI (As := []) (b := E.N1) ⟨hx, hb, hE.1.2.2.2.1, LE.hown hE, hts⟩ (C10_init _ rfl E.l E.D E.dA E.N1 E.A) ⟨cw, g7, hts _ g6⟩ ⟨fo_blind, fun U hU hW => ⟨⟨rfl, by rw [hU]; exact hR, fv_Kw hW hE.2.1, by rw [hU]; exact hO⟩, fo_Kw hW hE.2.2.1⟩⟩ rfl rfl hl.1 rfl (lv_room (Nat.le_of_ble_eq_true rfl)) dL_law_4 ⟨by decide, by decide⟩) (fun _ h => h) hS (fun r g al2 H2 locs2 hq hR2 hO2 hS2 _ => ?_)
  obtain ⟨rfl, rfl, rfl⟩ := hq
  have e : fil (fw cT gC lC) 0 87 (fun i => if i = 0 then some (.inr (7, dfX10)) else none) = fw cT gC lC := by
    funext i
    unfold fil
    by_cases q : i < 87
    · rw [if_pos ⟨Nat.zero_le _, q⟩]
    · rw [if_neg (fun w => q w.2), cT_none q]
      exact if_neg (show ¬ i = 0 by omega)
  rw [e] at hR2
  have hz2 : H2.size = E.N2 := (hO2 87 rfl).1
  have hR2 : fv_R E.D E.dA E.N1 E.A1 (fw cT gC lC) H2 := fun i c hi => by
    obtain ⟨w1, w2⟩ := hR2 i c hi
    refine ⟨⟨w1, ?_⟩, w2⟩
    have q : i < 87 := Decidable.byContradiction fun q => by rw [cT_none q] at hi; cases hi
    exact Nat.add_lt_add_left q _
  show W E.p E.l E.e room_1 E.s E.m #[Value.ref E.b] E.below E.meth E.c H2 locs2 _ _ _ (F0 E.m 7 ls [.ref E.N1])
  refine lv_astore_n (lv' := [(1, .ref E.N1), (0, .ref E.b)]) hx hb dL_law_7 rfl hl (by decide) rfl (fun ls hl => ?_)
  refine lb_new (N := E.N2) (A := E.A2) hE dL_law_8 fv_c8 nwL_10 dfX11_ok hz2 (fun _ h => h) (by decide) (by decide) (fun H3 hR3 hO3 hz3 o3 => ?_)
  have hS3 := fv_Spush hS2 (H1 := H3) (by rw [hz3, hz2]; exact Nat.le_succ _) o3
  have hX3 : fv_R E.D E.dA E.N1 E.A1 (fw cT gC lC) H3 := fun i c hi => by
    obtain ⟨w1, w2⟩ := hR2 i c hi
    exact ⟨w1, w2.kept (o3 _ w2.lt)⟩
  refine lv_dup hx hb dL_law_11 rfl ?_
  obtain ⟨⟨j1, j2, j3, j4, j5⟩, j6, j7, j8⟩ := lkL_12
  have cw2 := callB_of (R := room_1) (rm := fv_rm 2 32 256140) 0 hts (fv_wsG j3) rfl rfl rfl (hts _ j2) (hts _ j1) j4 ⟨by decide, by decide⟩
  rw [j8] at cw2
  refine lb_behind (rest := [.ref E.N2]) (va_runI (As := []) (b := E.N2) ⟨hx, hb, hE.1.2.2.2.1, LE.hown hE, hts⟩ (C11_init _ rfl (fun i hi => if_neg hi) E.l E.D E.dA E.N2 E.A2) ⟨cw2, j7, hts _ j6⟩ ⟨fv_blind, fun U hU hW => ⟨rfl, by rw [hU]; exact hR3, fv_Kw hW hE.2.1, by rw [hU]; exact hO3⟩⟩ rfl rfl hl.1 rfl (lv_room (Nat.le_of_ble_eq_true rfl)) dL_law_12 ⟨by decide, by decide⟩) hAA hS3 (fun r g al2 H4 locs4 hq hR4 _ hS4 o4 => ?_)
  obtain ⟨G2, rfl, rfl, rfl, hG, hQ⟩ := hq
  have hX4 : fv_R E.D E.dA E.N1 E.A1 (fw cT gC lC) H4 := fun i c hi => by
    obtain ⟨w1, w2⟩ := hX3 i c hi
    exact ⟨w1, w2.kept (o4 _ w2.lt (fun w => Nat.not_lt.mpr w w1.2))⟩
  show W E.p E.l E.e room_1 E.s E.m #[Value.ref E.b] E.below E.meth E.c H4 locs4 _ _ _ (F0 E.m 15 ls [.ref E.N2])
  refine lv_astore_n (lv' := [(2, .ref E.N2), (1, .ref E.N1), (0, .ref E.b)]) hx hb dL_law_15 rfl hl (by decide) rfl (fun ls hl => ?_)
  refine lv_iconst (v := nI 0) hx hb dL_law_16 (by decide) ?_
  refine lv_istore_n (lv' := [(3, .int (nI 0)), (2, .ref E.N2), (1, .ref E.N1), (0, .ref E.b)]) hx hb dL_law_17 rfl hl (by decide) rfl (fun ls hl => ?_)
  exact law_loop hE ⟨by decide, by decide⟩ (E.L + 1) 0 _ _ (by omega) (Nat.zero_le _) (wl_0 hG hQ) H4 locs4 ls hX4 hR4 hS4 (lv_sub hl [3, 2, 1, 0] rfl)
end LS
