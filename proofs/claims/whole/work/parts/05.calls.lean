/-! ===== rows that write arrays, call and return ===== -/
section FVS
variable {y : fv_Y} {d mc ms : Nat} {Q : Option Value → fv_F → Option Nat → Prop} {pc : Nat} {lv : fv_L} {st : List Value} {f : fv_F} {al : Option Nat} {k t : Nat}
theorem fx_iast {a n : Nat} {g : Nat → Int32} {i : Int32} {x : Int32} (j : Nat) (hd : decode y.2.1 pc = .ok (.iastore, 1)) (hf : f a = some (.inl (0, n, .inl g))) (hi : i = nI j) (hj : j < n) (hn : n < 2 ^ 31) (kk : fv_At y d mc ms Q (pc + 1) lv st (fv_set f a (.inl (0, n, .inl (upd g j x)))) al k t) : fv_At y d mc ms Q pc lv (.int x :: .int i :: .ref a :: st) f al k t := by
  intro p l e s m args below meth c D dA N A G H locs ls hR hS hO hl
  obtain ⟨hx, hb, hr, hlk, hml, hown, hts, ⟨hK, hNq⟩, hnm⟩ := id G
  subst hi
  have hin := vp_in_nI hj hn
  obtain ⟨hA, h1⟩ := hR a _ hf
  refine W.iast hx hb h1 ((hK.2 0 _ rfl).1 n (fun j => .int (g j))) (fun q => by cases q) (by show ¬ (_ < (0 : Int32) ∨ (arrV _ _ _).slots.size ≤ _); rw [arrV_size]; exact hin) rfl rfl hd fun H1 e1 e2 e3 => ?_
  refine kk p l e s m args below meth c D dA N A G H1 _ ls (fv_Rset hR hf ?_ e3) (hS.put e2 e3 hA) (fv_Oset hO e2) hl
  rw [nI_clamp (by omega)] at e1
  show H1[N + a]? = some (vp_cell _ _)
  rw [e1]
  congr 1
  refine (arrV_store _ _ _ _ _).trans ?_
  show arrV (dA 0) n (updV (fun j => .int (g j)) j (.int x)) = arrV (dA 0) n (fun q => .int (upd g j x q))
  congr 1
  funext q
  by_cases hq : q = j
  · subst hq
    simp [updV, upd]
    try rfl
  · simp [updV, upd, hq]
theorem fx_zast {a n : Nat} {g : Nat → Int32} {i : Int32} {x : Int32} (j : Nat) (hd : decode y.2.1 pc = .ok (.bastore, 1)) (hf : f a = some (.inl (2, n, .inl g))) (hi : i = nI j) (hj : j < n) (hn : n < 2 ^ 31) (kk : fv_At y d mc ms Q (pc + 1) lv st (fv_set f a (.inl (2, n, .inl (upd g j (vp_nar .boolean x))))) al k t) : fv_At y d mc ms Q pc lv (.int x :: .int i :: .ref a :: st) f al k t := by
  intro p l e s m args below meth c D dA N A G H locs ls hR hS hO hl
  obtain ⟨hx, hb, hr, hlk, hml, hown, hts, ⟨hK, hNq⟩, hnm⟩ := id G
  subst hi
  have hin := vp_in_nI hj hn
  obtain ⟨hA, h1⟩ := hR a _ hf
  refine W.zast hx hb h1 ((hK.2 2 _ rfl).1 n (fun j => .int (g j))) (fun q => by cases q) (by show ¬ (_ < (0 : Int32) ∨ (arrV _ _ _).slots.size ≤ _); rw [arrV_size]; exact hin) rfl rfl hd fun H1 e1 e2 e3 => ?_
  refine kk p l e s m args below meth c D dA N A G H1 _ ls (fv_Rset hR hf ?_ e3) (hS.put e2 e3 hA) (fv_Oset hO e2) hl
  rw [nI_clamp (by omega)] at e1
  show H1[N + a]? = some (vp_cell _ _)
  rw [e1]
  congr 1
  refine (arrV_store _ _ _ _ _).trans ?_
  show arrV (dA 2) n (updV (fun j => .int (g j)) j (narrow .boolean (.int x))) = arrV (dA 2) n (fun q => .int (upd g j (vp_nar .boolean x) q))
  congr 1
  funext q
  by_cases hq : q = j
  · subst hq
    simp [updV, upd, vp_nar]
    try rfl
  · simp [updV, upd, hq]
theorem fx_last {a n : Nat} {g : Nat → Int64} {i : Int32} {x : Int64} (j : Nat) (hd : decode y.2.1 pc = .ok (.lastore, 1)) (hf : f a = some (.inl (1, n, .inr (.inl g)))) (hi : i = nI j) (hj : j < n) (hn : n < 2 ^ 31) (kk : fv_At y d mc ms Q (pc + 1) lv st (fv_set f a (.inl (1, n, .inr (.inl (vp_updL g j x))))) al k t) : fv_At y d mc ms Q pc lv (.long x :: .int i :: .ref a :: st) f al k t := by
  intro p l e s m args below meth c D dA N A G H locs ls hR hS hO hl
  obtain ⟨hx, hb, hr, hlk, hml, hown, hts, ⟨hK, hNq⟩, hnm⟩ := id G
  subst hi
  have hin := vp_in_nI hj hn
  obtain ⟨hA, h1⟩ := hR a _ hf
  refine W.last hx hb h1 ((hK.2 1 _ rfl).1 n (fun j => .long (g j))) (fun q => by cases q) (by show ¬ (_ < (0 : Int32) ∨ (arrV _ _ _).slots.size ≤ _); rw [arrV_size]; exact hin) rfl rfl hd fun H1 e1 e2 e3 => ?_
  refine kk p l e s m args below meth c D dA N A G H1 _ ls (fv_Rset hR hf ?_ e3) (hS.put e2 e3 hA) (fv_Oset hO e2) hl
  rw [nI_clamp (by omega)] at e1
  show H1[N + a]? = some (vp_cell _ _)
  rw [e1]
  congr 1
  refine (arrV_store _ _ _ _ _).trans ?_
  show arrV (dA 1) n (updV (fun j => .long (g j)) j (.long x)) = arrV (dA 1) n (fun q => .long (vp_updL g j x q))
  congr 1
  funext q
  by_cases hq : q = j
  · subst hq
    simp [updV, vp_updL]
    try rfl
  · simp [updV, vp_updL, hq]
/-- the end of a method: its answer, its cells -/
theorem fv_done {p : Program} {l : Launch} {e : Env} {s : State} {m : MethodId} {args : Array Value} {meth : Method} {c : Code} {D : va_G} {dA : Nat → ClassId} {N : Nat} {A : Nat → Prop} {H : Heap} {locs : List Loc} {r : Option Value} (hR : fv_R D dA N A f H) (hS : va_S A s.heap H locs) (hO : fv_O N A al H) (hq : Q r f al) : ∀ t : State, t.heap = H → s.WarmedH t.vm → fv_Qc D dA N A Q args s (.returned (r.map (fv_v N))) t := by
  intro t ht _
  refine ⟨r, f, al, rfl, hq, by rw [ht]; exact hR, ?_, ?_⟩
  · rw [ht]; exact hO
  · exact ⟨by rw [ht]; exact hS.1, fun q h1 h2 => by rw [ht]; exact hS.2.1 q h1 h2⟩
theorem fx_iret {x : Int32} (hd : decode y.2.1 pc = .ok (.ireturn, 1)) (hr : y.2.2.2 = some .int) (hk : k = mc) (ht : t = ms) (hq : Q (some (.int x)) f al) : fv_At y d mc ms Q pc lv [.int x] f al k t := by
  intro p l e s m args below meth c D dA N A G H locs ls hR hS hO hl
  obtain ⟨hx, hb, hret, hlk, hml, hown, hts, ⟨hK, hNq⟩, hnm⟩ := id G
  subst hk; subst ht
  exact W.zret hx hb (hret.trans hr) rfl (fv_done (p := p) (l := l) (e := e) (m := m) (meth := meth) (c := c) hR hS hO hq) hS.2.2 hd hlk
theorem fx_zret {x : Int32} (hd : decode y.2.1 pc = .ok (.ireturn, 1)) (hr : y.2.2.2 = some .boolean) (hx01 : x = 0 ∨ x = 1) (hk : k = mc) (ht : t = ms) (hq : Q (some (.int x)) f al) : fv_At y d mc ms Q pc lv [.int x] f al k t := by
  intro p l e s m args below meth c D dA N A G H locs ls hR hS hO hl
  obtain ⟨hx, hb, hret, hlk, hml, hown, hts, ⟨hK, hNq⟩, hnm⟩ := id G
  subst hk; subst ht
  exact W.zret hx hb (hret.trans hr) (by rcases hx01 with h | h <;> subst h <;> rfl) (fv_done (p := p) (l := l) (e := e) (m := m) (meth := meth) (c := c) hR hS hO hq) hS.2.2 hd hlk
theorem fx_lret {x : Int64} (hd : decode y.2.1 pc = .ok (.lreturn, 1)) (hr : y.2.2.2 = some .long) (hk : k = mc) (ht : t = ms) (hq : Q (some (.long x)) f al) : fv_At y d mc ms Q pc lv [.long x] f al k t := by
  intro p l e s m args below meth c D dA N A G H locs ls hR hS hO hl
  obtain ⟨hx, hb, hret, hlk, hml, hown, hts, ⟨hK, hNq⟩, hnm⟩ := id G
  subst hk; subst ht
  exact W.lret hx hb (hret.trans hr) (fv_done (p := p) (l := l) (e := e) (m := m) (meth := meth) (c := c) hR hS hO hq) hS.2.2 hd hlk
theorem fx_aret {a : Nat} {C : String} (hd : decode y.2.1 pc = .ok (.areturn, 1)) (hr : y.2.2.2 = some (.object C)) (hk : k = mc) (ht : t = ms) (hq : Q (some (.ref a)) f al) : fv_At y d mc ms Q pc lv [.ref a] f al k t := by
  intro p l e s m args below meth c D dA N A G H locs ls hR hS hO hl
  obtain ⟨hx, hb, hret, hlk, hml, hown, hts, ⟨hK, hNq⟩, hnm⟩ := id G
  subst hk; subst ht
  exact W.aret hx hb (hret.trans hr) (Or.inl ⟨C, rfl⟩) (Or.inr ⟨_, rfl⟩) (fv_done (p := p) (l := l) (e := e) (m := m) (meth := meth) (c := c) (r := some (.ref a)) hR hS hO hq) hS.2.2 hd hlk
theorem fx_vret (hd : decode y.2.1 pc = .ok (.return_, 1)) (hr : y.2.2.2 = none) (hk : k = mc) (ht : t = ms) (hq : Q none f al) : fv_At y d mc ms Q pc lv [] f al k t := by
  intro p l e s m args below meth c D dA N A G H locs ls hR hS hO hl
  obtain ⟨hx, hb, hret, hlk, hml, hown, hts, ⟨hK, hNq⟩, hnm⟩ := id G
  subst hk; subst ht
  exact W.vret hx hb (hret.trans hr) (fv_done (p := p) (l := l) (e := e) (m := m) (meth := meth) (c := c) (r := none) hR hS hO hq) hS.2.2 hd hlk
/-- a method as a class's pool names it: its entry, its words -/
def fv_mt (own : String) (idx : Nat) (y2 : fv_Y) (n : Nat) : Prop := Cond.methodLink own idx y2.1 ∈ fv_tbl ∧ Cond.initialized y2.1.cls ∈ fv_tbl ∧ Cond.code y2.1 y2.2.1 y2.2.2.1 y2.2.2.2 ∈ fv_tbl ∧ (y2.1.cls ≠ "java/lang/invoke/MethodHandle" ∧ y2.1.cls ≠ "java/lang/invoke/VarHandle" ∧ (parseMethodDescriptor y2.1.desc).map (fun d => d.parameters.length) = some n) ∧ y2.2.2.1 ≤ 40
def fv_mS (own : String) (idx : Nat) (y2 : fv_Y) (n : Nat) : Prop := fv_mt own idx y2 n ∧ Cond.static y2.1 ∈ fv_tbl
def fv_mV (own : String) (idx : Nat) (y2 : fv_Y) (n : Nat) : Prop := fv_mt own idx y2 n ∧ Cond.instanceMethod y2.1 ∈ fv_tbl ∧ Cond.selects y2.1.cls y2.1 y2.1 ∈ fv_tbl
def fv_mI (own : String) (idx : Nat) (y2 : fv_Y) (n : Nat) : Prop := fv_mt own idx y2 n ∧ Cond.instanceMethod y2.1 ∈ fv_tbl ∧ y2.1.name = "<init>" ∧ y2.2.2.2 = none
theorem fv_wsG {y2 : fv_Y} (h : Cond.code y2.1 y2.2.1 y2.2.2.1 y2.2.2.2 ∈ fv_tbl) : GoodIn fv_tbl (fv_ws y2) := by
  intro w hw
  rcases List.mem_cons.mp hw with rfl | hw
  · exact ⟨h, good_of_word (fv_good _ h)⟩
  · exact ⟨hw, good_of_word (fv_good _ hw)⟩
theorem fv_blind {D : va_G} {dA : Nat → ClassId} {N : Nat} {A : Nat → Prop} {as : List Value} : FrameBlind (fv_Pc D dA N A as f al) := by
  intro a U g mk q
  obtain ⟨q1, q2, q3, q4⟩ := q
  exact ⟨q1, q2, ⟨va_K.moved (u := U) (U := U.calling g mk a) (Vm.Alike.refl U.vm) q3.1, fun z h => va_Nw.same rfl rfl (q3.2 z h)⟩, q4⟩
theorem fv_catS (N : Nat) (vs : List Value) : ((vs.map (fv_v N)).map fun v => v.category).sum = (vs.map fun v => v.category).sum := by
  rw [List.map_map]
  congr 1
  apply List.map_congr_left
  intro v _
  exact fv_cat N v
/-- behind a call -/
theorem fv_behind {p : Program} {l : Launch} {e : Env} {s : State} {m : MethodId} {args : Array Value} {below : List Frame} {meth : Method} {c : Code} {D : va_G} {dA : Nat → ClassId} {N : Nat} {A : Nat → Prop} {H : Heap} {locs : List Loc} {ls : Array Slot} {a : Array Value} {Q2 : Option Value → fv_F → Option Nat → Prop} {mc2 ms2 : Nat} {rest : List Value}
    (G : fv_G y p s m args meth c D dA) (hr : va_Run p l e (fv_rm d mc ms) s m args below meth c H locs k t mc2 ms2 (F0 m pc ls st) (rest.map (fv_v N)) (fv_Qc D dA N A Q2 a) A) (hS : va_S A s.heap H locs) (hl : lv_has ls y.2.2.1 (lv.map (fv_cN N)))
    (kk : ∀ (r : Option Value) (f2 : fv_F) (al2 : Option Nat), Q2 r f2 al2 → fv_At y d mc ms Q (pc + 3) lv (r.toList ++ rest) f2 al2 (k + mc2) (t + ms2)) :
    W p l e (fv_rm d mc ms) s m args below meth c H locs k t (MQ below (fv_Qc D dA N A Q) args s mc ms A) (F0 m pc ls st) := by
  intro T hT X
  obtain ⟨v, st₀, t', T', L, h0, X', hL, e1, e2, ⟨r, f2, al2, hv, hq, hR2, hO2, hz, hk⟩, stp⟩ := hr T hT X
  cases hv
  rw [h0] at hz hk
  rw [← e1] at hR2 hO2 hz hk
  have hS2 : va_S A s.heap T'.heap (locs ++ L) := ⟨Nat.le_trans hS.1 hz, fun q h1 h2 => by rw [hk q (Nat.lt_of_lt_of_le h1 hS.1) h2]; exact hS.2.1 q h1 h2, fun q hq => by
    rcases List.mem_append.mp hq with h | h
    · exact hS.2.2 q h
    · exact hL q h⟩
  obtain ⟨t2, a1, b1⟩ := kk r f2 al2 hq p l e s m args below meth c D dA N A G T'.heap (locs ++ L) ls hR2 hS2 hO2 hl T' rfl X'
  refine ⟨t2, stp t2 ?_, b1⟩
  have e3 : (r.map (fv_v N)).toList ++ rest.map (fv_v N) = (r.toList ++ rest).map (fv_v N) := by
    cases r <;> rfl
  show Steps p.tables e below (T'.setTop { F0 m pc ls st with pc := pc + 3, stack := (r.map (fv_v N)).toList ++ rest.map (fv_v N) }) t2
  rw [e3]
  exact a1
theorem fx_callS {idx : Nat} {y2 : fv_Y} {n d2 mc2 ms2 : Nat} {as rest : List Value} {Q2 : Option Value → fv_F → Option Nat → Prop} (hd : decode y.2.1 pc = .ok (.invokestatic idx, 3)) (hp : fv_mS y.1.cls idx y2 n) (hM : fv_M y2 d2 mc2 ms2 as f al Q2) (hst : st = as.reverse ++ rest) (hn : as.length = n) (hdep : d2 < d) (hcat : (rest.map fun v => v.category).sum ≤ 8) (hmc : k + mc2 ≤ mc) (hms : t + ms2 ≤ ms)
    (kk : ∀ (r : Option Value) (f2 : fv_F) (al2 : Option Nat), Q2 r f2 al2 → fv_At y d mc ms Q (pc + 3) lv (r.toList ++ rest) f2 al2 (k + mc2) (t + ms2)) : fv_At y d mc ms Q pc lv st f al k t := by
  intro p l e s m args below meth c D dA N A G H locs ls hR hS hO hl
  obtain ⟨hx, hb, hret, hlk, hml, hown, hts, ⟨hK, hNq⟩, hnm⟩ := id G
  obtain ⟨⟨h1, h2, h3, h4, h5⟩, h6⟩ := hp
  subst hst
  have hs : (as.reverse ++ rest).map (fv_v N) = (as.map (fv_v N)).reverse ++ rest.map (fv_v N) := by rw [List.map_append, List.map_reverse]
  rw [hs]
  have cw := callB_of (R := fv_rm d mc ms) (rm := fv_rm d2 mc2 ms2) n hts (fv_wsG h3) rfl rfl rfl (hts _ h2) (hts _ h1) h4 ⟨hdep, by show 8 + (_ + 11) + 64 * d2 ≤ 64 * d; omega⟩
  exact fv_behind G (va_runS (As := as.map (fv_v N)) ⟨hx, hb, hml, hown, hts⟩ (hM l D dA N A) ⟨cw, hts _ h6⟩ ⟨fv_blind, fun U hU hW => ⟨rfl, by rw [hU]; exact hR, fv_Kw hW ⟨hK, hNq⟩, by rw [hU]; exact hO⟩⟩ rfl (by rw [List.length_map]; exact hn) hl.1 rfl (lv_room (by rw [fv_catS]; exact hcat)) hd ⟨hmc, hms⟩) hS hl kk
theorem fx_callV {idx : Nat} {y2 : fv_Y} {n d2 mc2 ms2 b ci : Nat} {C : String} {T : u_T} {nf : Nat} {ty0 : Nat → FieldType} {fs : List Value} {as rest : List Value} {Q2 : Option Value → fv_F → Option Nat → Prop} (hd : decode y.2.1 pc = .ok (.invokevirtual idx, 3)) (hp : fv_mV y.1.cls idx y2 n) (hc : fv_cls ci C T nf ty0) (hC : y2.1.cls = C) (hf : f b = some (.inr (ci, fs))) (hM : fv_M y2 d2 mc2 ms2 (.ref b :: as) f al Q2) (hst : st = as.reverse ++ .ref b :: rest) (hn : as.length = n) (hdep : d2 < d) (hcat : (rest.map fun v => v.category).sum ≤ 8) (hmc : k + mc2 ≤ mc) (hms : t + ms2 ≤ ms)
    (kk : ∀ (r : Option Value) (f2 : fv_F) (al2 : Option Nat), Q2 r f2 al2 → fv_At y d mc ms Q (pc + 3) lv (r.toList ++ rest) f2 al2 (k + mc2) (t + ms2)) : fv_At y d mc ms Q pc lv st f al k t := by
  intro p l e s m args below meth c D dA N A G H locs ls hR hS hO hl
  obtain ⟨hx, hb, hret, hlk, hml, hown, hts, ⟨hK, hNq⟩, hnm⟩ := id G
  obtain ⟨⟨h1, h2, h3, h4, h5⟩, h6, h7⟩ := hp
  subst hst
  subst hC
  have hs : (as.reverse ++ .ref b :: rest).map (fv_v N) = (as.map (fv_v N)).reverse ++ .ref (N + b) :: rest.map (fv_v N) := by rw [List.map_append, List.map_reverse]; rfl
  rw [hs]
  have cw := callB_of (R := fv_rm d mc ms) (rm := fv_rm d2 mc2 ms2) n hts (fv_wsG h3) rfl rfl rfl (hts _ h2) (hts _ h1) h4 ⟨hdep, by show 8 + (_ + 11) + 64 * d2 ≤ 64 * d; omega⟩
  exact fv_behind G (va_runV (As := as.map (fv_v N)) (b := N + b) ⟨hx, hb, hml, hown, hts⟩ (hM l D dA N A) ⟨cw, hts _ h6, hts _ h7⟩ ⟨fv_blind, va_recv hK (fv_R1 hR hf) hc.1 (q0 := 0) rfl, fun U hU hW => ⟨rfl, by rw [hU]; exact hR, fv_Kw hW ⟨hK, hNq⟩, by rw [hU]; exact hO⟩⟩ rfl (by rw [List.length_map]; exact hn) hl.1 rfl (lv_room (by rw [fv_catS]; exact hcat)) hd ⟨hmc, hms⟩) hS hl kk
theorem fx_callI {idx : Nat} {y2 : fv_Y} {n d2 mc2 ms2 b : Nat} {as rest : List Value} {Q2 : Option Value → fv_F → Option Nat → Prop} (hd : decode y.2.1 pc = .ok (.invokespecial idx, 3)) (hp : fv_mI y.1.cls idx y2 n) (hM : fv_M y2 d2 mc2 ms2 (.ref b :: as) f al Q2) (hst : st = as.reverse ++ .ref b :: rest) (hn : as.length = n) (hdep : d2 < d) (hcat : (rest.map fun v => v.category).sum ≤ 8) (hmc : k + mc2 ≤ mc) (hms : t + ms2 ≤ ms)
    (kk : ∀ (r : Option Value) (f2 : fv_F) (al2 : Option Nat), Q2 r f2 al2 → fv_At y d mc ms Q (pc + 3) lv (r.toList ++ rest) f2 al2 (k + mc2) (t + ms2)) : fv_At y d mc ms Q pc lv st f al k t := by
  intro p l e s m args below meth c D dA N A G H locs ls hR hS hO hl
  obtain ⟨hx, hb, hret, hlk, hml, hown, hts, ⟨hK, hNq⟩, hnm⟩ := id G
  obtain ⟨⟨h1, h2, h3, h4, h5⟩, h6, h7, h8⟩ := hp
  subst hst
  have hs : (as.reverse ++ .ref b :: rest).map (fv_v N) = (as.map (fv_v N)).reverse ++ .ref (N + b) :: rest.map (fv_v N) := by rw [List.map_append, List.map_reverse]; rfl
  rw [hs]
  have cw := callB_of (R := fv_rm d mc ms) (rm := fv_rm d2 mc2 ms2) n hts (fv_wsG h3) rfl rfl rfl (hts _ h2) (hts _ h1) h4 ⟨hdep, by show 8 + (_ + 11) + 64 * d2 ≤ 64 * d; omega⟩
  rw [h8] at cw
  exact fv_behind G (va_runI (As := as.map (fv_v N)) (b := N + b) ⟨hx, hb, hml, hown, hts⟩ (hM l D dA N A) ⟨cw, h7, hts _ h6⟩ ⟨fv_blind, fun U hU hW => ⟨rfl, by rw [hU]; exact hR, fv_Kw hW ⟨hK, hNq⟩, by rw [hU]; exact hO⟩⟩ rfl (by rw [List.length_map]; exact hn) hl.1 rfl (lv_room (by rw [fv_catS]; exact hcat)) hd ⟨hmc, hms⟩) hS hl kk
/-- the same for private methods of nest mates -/
def fv_mtN (own : String) (idx : Nat) (y2 : fv_Y) (n : Nat) : Prop := (own, idx, y2.1) ∈ fv_nq ∧ Cond.initialized y2.1.cls ∈ fv_tbl ∧ Cond.code y2.1 y2.2.1 y2.2.2.1 y2.2.2.2 ∈ fv_tbl ∧ (y2.1.cls ≠ "java/lang/invoke/MethodHandle" ∧ y2.1.cls ≠ "java/lang/invoke/VarHandle" ∧ (parseMethodDescriptor y2.1.desc).map (fun d => d.parameters.length) = some n) ∧ y2.2.2.1 ≤ 40
def fv_mSN (own : String) (idx : Nat) (y2 : fv_Y) (n : Nat) : Prop := fv_mtN own idx y2 n ∧ Cond.static y2.1 ∈ fv_tbl
def fv_mIN (own : String) (idx : Nat) (y2 : fv_Y) (n : Nat) : Prop := fv_mtN own idx y2 n ∧ Cond.instanceMethod y2.1 ∈ fv_tbl ∧ y2.1.name = "<init>" ∧ y2.2.2.2 = none
theorem fv_CN {s : State} {args : Array Value} {own : String} {idx : Nat} {y2 : fv_Y} {n d2 mc2 ms2 : Nat} (hts : ∀ w ∈ fv_tbl, w.before args s = true) (hNq : ∀ q ∈ fv_nq, va_Nw (.methodLinkNest q.1 q.2.1 q.2.2 "MeetHouse") s) (h : fv_mtN own idx y2 n) (hdep : d2 < d) : va_CN (fv_rm d mc ms) s args own idx y2.1 "MeetHouse" y2.2.1 y2.2.2.1 y2.2.2.2 (fv_ws y2) (fv_rm d2 mc2 ms2) mc2 ms2 n := by
  obtain ⟨h1, h2, h3, h4, h5⟩ := h
  refine ⟨⟨rfl, rfl, hdep, ?_, pay_in hts (fv_wsG h3), List.mem_cons_self⟩, hts _ h3, hts _ h2, ⟨h4.1, h4.2.1⟩, fun sig hs => ?_, va_Nw.use rfl (hNq _ h1)⟩
  · show 8 + (_ + 11) + 64 * d2 ≤ 64 * d
    omega
  · have h2 := h4.2.2
    rw [hs] at h2
    exact (Option.some.inj h2).symm
theorem fx_callSN {idx : Nat} {y2 : fv_Y} {n d2 mc2 ms2 : Nat} {as rest : List Value} {Q2 : Option Value → fv_F → Option Nat → Prop} (hd : decode y.2.1 pc = .ok (.invokestatic idx, 3)) (hp : fv_mSN y.1.cls idx y2 n) (hM : fv_M y2 d2 mc2 ms2 as f al Q2) (hst : st = as.reverse ++ rest) (hn : as.length = n) (hdep : d2 < d) (hcat : (rest.map fun v => v.category).sum ≤ 8) (hmc : k + mc2 ≤ mc) (hms : t + ms2 ≤ ms)
    (kk : ∀ (r : Option Value) (f2 : fv_F) (al2 : Option Nat), Q2 r f2 al2 → fv_At y d mc ms Q (pc + 3) lv (r.toList ++ rest) f2 al2 (k + mc2) (t + ms2)) : fv_At y d mc ms Q pc lv st f al k t := by
  intro p l e s m args below meth c D dA N A G H locs ls hR hS hO hl
  obtain ⟨hx, hb, hret, hlk, hml, hown, hts, ⟨hK, hNq⟩, hnm⟩ := id G
  subst hst
  have hs : (as.reverse ++ rest).map (fv_v N) = (as.map (fv_v N)).reverse ++ rest.map (fv_v N) := by rw [List.map_append, List.map_reverse]
  rw [hs]
  exact fv_behind G (va_runSN (As := as.map (fv_v N)) ⟨hx, hb, hml, hown, hts⟩ (hM l D dA N A) ⟨fv_CN hts hNq hp.1 hdep, hts _ hp.2, trivial⟩ ⟨fv_blind, fun U hU hW => ⟨rfl, by rw [hU]; exact hR, fv_Kw hW ⟨hK, hNq⟩, by rw [hU]; exact hO⟩⟩ rfl (by rw [List.length_map]; exact hn) hl.1 rfl (lv_room (by rw [fv_catS]; exact hcat)) hd ⟨hmc, hms⟩) hS hl kk
theorem fx_callIN {idx : Nat} {y2 : fv_Y} {n d2 mc2 ms2 b : Nat} {as rest : List Value} {Q2 : Option Value → fv_F → Option Nat → Prop} (hd : decode y.2.1 pc = .ok (.invokespecial idx, 3)) (hp : fv_mIN y.1.cls idx y2 n) (hM : fv_M y2 d2 mc2 ms2 (.ref b :: as) f al Q2) (hst : st = as.reverse ++ .ref b :: rest) (hn : as.length = n) (hdep : d2 < d) (hcat : (rest.map fun v => v.category).sum ≤ 8) (hmc : k + mc2 ≤ mc) (hms : t + ms2 ≤ ms)
    (kk : ∀ (r : Option Value) (f2 : fv_F) (al2 : Option Nat), Q2 r f2 al2 → fv_At y d mc ms Q (pc + 3) lv (r.toList ++ rest) f2 al2 (k + mc2) (t + ms2)) : fv_At y d mc ms Q pc lv st f al k t := by
  intro p l e s m args below meth c D dA N A G H locs ls hR hS hO hl
  obtain ⟨hx, hb, hret, hlk, hml, hown, hts, ⟨hK, hNq⟩, hnm⟩ := id G
  obtain ⟨h1, h6, h7, h8⟩ := hp
  subst hst
  have hs : (as.reverse ++ .ref b :: rest).map (fv_v N) = (as.map (fv_v N)).reverse ++ .ref (N + b) :: rest.map (fv_v N) := by rw [List.map_append, List.map_reverse]; rfl
  rw [hs]
  have cw := fv_CN (mc := mc) (ms := ms) (mc2 := mc2) (ms2 := ms2) hts hNq h1 hdep
  rw [h8] at cw
  exact fv_behind G (va_runIN (As := as.map (fv_v N)) (b := N + b) ⟨hx, hb, hml, hown, hts⟩ (hM l D dA N A) ⟨cw, h7, hts _ h6⟩ ⟨fv_blind, fun U hU hW => ⟨rfl, by rw [hU]; exact hR, fv_Kw hW ⟨hK, hNq⟩, by rw [hU]; exact hO⟩⟩ rfl (by rw [List.length_map]; exact hn) hl.1 rfl (lv_room (by rw [fv_catS]; exact hcat)) hd ⟨hmc, hms⟩) hS hl kk
theorem fv_slen (vs : List Value) : (lg_sl vs).length = (vs.map fun v => v.category).sum := by
  induction vs with
  | nil => rfl
  | cons v r ih =>
    have h : lg_sl (v :: r) = (if v.category = 2 then [Slot.val v, .second] else [.val v]) ++ lg_sl r := rfl
    rw [h, List.length_append, ih, List.map_cons, List.sum_cons]
    rcases lv_cat v with e | e <;> rw [e] <;> rfl
theorem fv_argsN (N : Nat) (vs : List Value) : ∀ i, lv_args i (vs.map (fv_v N)) = (lv_args i vs).map (fv_cN N) := by
  induction vs with
  | nil => intro i; rfl
  | cons v r ih =>
    intro i
    simp only [List.map_cons, lv_args, fv_cat, ih, fv_cN]
theorem fv_enter {as : List Value} (hy : plainName y.1.cls = true) (hl : (as.map fun v => v.category).sum ≤ y.2.2.1) (kk : fv_At y d mc ms Q 0 (lv_args 0 as) [] f al 0 0) : fv_M y d mc ms as f al Q := by
  intro l D dA N A
  refine Met.ofW (cc := y.2.1) (maxL := y.2.2.1) (ret := y.2.2.2) hy rfl ?_
  intro p e s m args below meth c s₁ B hml hv
  obtain ⟨rfl, hR, hK, hO⟩ := hv
  have hts := atoms_spec (ws := fv_ws y) B.pre
  have hown : s.vm.findClass y.1.cls = some m.cls := findClass_of_methodNamed B.named
  rw [lg_entry_eq]
  have hl2 := lv_entry (as.map (fv_v N)) (n := y.2.2.1) (by rw [fv_slen, fv_catS]; exact hl)
  rw [fv_argsN] at hl2
  exact kk p l e s m _ below meth c D dA N A ⟨B.exec, B.bytes, B.returns, B.notSynchronized, hml, hown, fun w hw => hts w (List.mem_cons_of_mem _ hw), hK, (name_of_methodNamed B.named B.method).1⟩ s.heap [] _ hR va_S.rf hO hl2
/-- a call that answers one thing and makes no cell -/
def fv_eq (r : Option Value) (f : fv_F) : Option Value → fv_F → Option Nat → Prop := fun r2 f2 al2 => r2 = r ∧ f2 = f ∧ al2 = none
end FVS
