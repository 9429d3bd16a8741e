/-! ===== the same rows where the array classes are known as well ===== -/
def va_AI (U : State) : Prop := (Cond.arrayOver (.array .int)).before #[] U = true
theorem va_AI.moved {u U : State} (hvm : u.vm.Alike U.vm) (h : va_AI u) : va_AI U := by
  obtain ⟨comp, c, k, h1, h2, h3, h4, h5⟩ := arrayOverA_spec h
  obtain ⟨k', hk', he⟩ := hvm.2.2 _ _ h3
  have hi := (Vm.Alike.findIdx?_eq hvm _ (fun _ => rfl)).trans h2
  have hkind : k'.kind = .array comp (.array .int) := by rw [he]; exact h4
  have f1 : U.vm.findClass (FieldType.array .int).toString = some comp := by rw [hvm.findClass]; exact h1
  have f2 : U.vm.findClass ("[" ++ (FieldType.array .int).toString) = some c := by rw [hvm.findClass]; exact h5
  unfold va_AI Cond.before Cond.holds
  simp only [Cond.value]
  rw [f1, Option.bind_some]
  refine (congrArg (fun o : Option Nat => (o.bind (fun c => (U.vm.classes[c]?).map fun (k : Class) => match k.kind with | .array _ ty => decide (ty = FieldType.array .int) && decide (U.vm.findClass ("[" ++ (FieldType.array .int).toString) = some c) | _ => false) == some true)) hi).trans ?_
  simp [hk', hkind, f2]
def fo_K (U : State) : Prop := va_AO "MeetHouse$Polynomial" U ∧ va_AO "MeetHouse$Line" U ∧ va_AI U
theorem fo_Km {u U : State} (hvm : u.vm.Alike U.vm) (h : fo_K u) : fo_K U := ⟨h.1.moved hvm, h.2.1.moved hvm, va_AI.moved hvm h.2.2⟩
theorem fo_Kw {s U : State} (hW : s.WarmedH U.vm) (h : fo_K s) : fo_K U := fo_Km hW.alike h
def fo_G (y : fv_Y) (p : Program) (s : State) (m : MethodId) (args : Array Value) (meth : Method) (c : Code) (D : va_G) (dA : Nat → ClassId) : Prop := fv_G y p s m args meth c D dA ∧ fo_K s
def fo_Pc (D : va_G) (dA : Nat → ClassId) (N : Nat) (A : Nat → Prop) (as : List Value) (f : fv_F) (al : Option Nat) : Array Value → State → Prop := fun a U => fv_Pc D dA N A as f al a U ∧ fo_K U
def fo_M (y : fv_Y) (d mc ms : Nat) (as : List Value) (f : fv_F) (al : Option Nat) (Q : Option Value → fv_F → Option Nat → Prop) : Prop :=
  ∀ (l : Launch) (D : va_G) (dA : Nat → ClassId) (N : Nat) (A : Nat → Prop), Met l y.1 (fv_ws y) (fv_rm d mc ms) (fo_Pc D dA N A as f al) (fv_Qc D dA N A Q) mc ms A
theorem fo_of {y : fv_Y} {d mc ms : Nat} {as : List Value} {f : fv_F} {al : Option Nat} {Q : Option Value → fv_F → Option Nat → Prop} (h : fv_M y d mc ms as f al Q) : fo_M y d mc ms as f al Q :=
  fun l D dA N A p e h1 h2 h3 s m args below hf happ hP hk => h l D dA N A p e h1 h2 h3 s m args below hf happ hP.1 hk
def fo_At (y : fv_Y) (d mc ms : Nat) (Q : Option Value → fv_F → Option Nat → Prop) (pc : Nat) (lv : fv_L) (st : List Value) (f : fv_F) (al : Option Nat) (k t : Nat) : Prop :=
  ∀ (p : Program) (l : Launch) (e : Env) (s : State) (m : MethodId) (args : Array Value) (below : List Frame) (meth : Method) (c : Code) (D : va_G) (dA : Nat → ClassId) (N : Nat) (A : Nat → Prop), fo_G y p s m args meth c D dA →
    ∀ (H : Heap) (locs : List Loc) (ls : Array Slot), fv_R D dA N A f H → va_S A s.heap H locs → fv_O N A al H → lv_has ls y.2.2.1 (lv.map (fv_cN N)) →
      W p l e (fv_rm d mc ms) s m args below meth c H locs k t (MQ below (fv_Qc D dA N A Q) args s mc ms A) (F0 m pc ls (st.map (fv_v N)))
theorem fo_blind {D : va_G} {dA : Nat → ClassId} {N : Nat} {A : Nat → Prop} {as : List Value} {f : fv_F} {al : Option Nat} : FrameBlind (fo_Pc D dA N A as f al) := by
  intro a U g mk q
  exact ⟨fv_blind a U g mk q.1, fo_Km (u := U) (U := U.calling g mk a) (Vm.Alike.refl U.vm) q.2⟩
section FO
variable {y : fv_Y} {d mc ms : Nat} {Q : Option Value → fv_F → Option Nat → Prop} {pc : Nat} {lv : fv_L} {st : List Value} {f : fv_F} {al : Option Nat} {k t : Nat}

theorem fo_iconst {n : Int} {v : Int32} (hd : decode y.2.1 pc = .ok (.iconst n, 1)) (hv : Int32.ofInt n = v) (kk : fo_At y d mc ms Q (pc + 1) lv (.int v :: st) f al k t) : fo_At y d mc ms Q pc lv (st) f al k t := by
  intro p l e s m args below meth c D dA N A G H locs ls hR hS hO hl
  obtain ⟨hx, hb, hr, hlk, hml, hown, hts, ⟨hK, hNq⟩, hnm⟩ := G.1
  exact lv_iconst hx hb hd hv (kk p l e s m args below meth c D dA N A G H locs ls hR hS hO hl)

theorem fo_bipush {n : Int} {v : Int32} (hd : decode y.2.1 pc = .ok (.bipush n, 2)) (hv : (Int8.ofInt n).toInt32 = v) (kk : fo_At y d mc ms Q (pc + 2) lv (.int v :: st) f al k t) : fo_At y d mc ms Q pc lv (st) f al k t := by
  intro p l e s m args below meth c D dA N A G H locs ls hR hS hO hl
  obtain ⟨hx, hb, hr, hlk, hml, hown, hts, ⟨hK, hNq⟩, hnm⟩ := G.1
  exact lv_bipush hx hb hd hv (kk p l e s m args below meth c D dA N A G H locs ls hR hS hO hl)

theorem fo_iload_n {n : Fin 4} {i : Nat} {x : Int32} (hd : decode y.2.1 pc = .ok (.iload_n n, 1)) (hi : (n : Nat) = i) (hg : fv_g lv i = some (.int x)) (kk : fo_At y d mc ms Q (pc + 1) lv (.int x :: st) f al k t) : fo_At y d mc ms Q pc lv (st) f al k t := by
  intro p l e s m args below meth c D dA N A G H locs ls hR hS hO hl
  obtain ⟨hx, hb, hr, hlk, hml, hown, hts, ⟨hK, hNq⟩, hnm⟩ := G.1
  exact lv_iload_n hx hb hd hi (fv_lk hl hg) (kk p l e s m args below meth c D dA N A G H locs ls hR hS hO hl)

theorem fo_aload_n {n : Fin 4} {i a : Nat} (hd : decode y.2.1 pc = .ok (.aload_n n, 1)) (hi : (n : Nat) = i) (hg : fv_g lv i = some (.ref a)) (kk : fo_At y d mc ms Q (pc + 1) lv (.ref a :: st) f al k t) : fo_At y d mc ms Q pc lv (st) f al k t := by
  intro p l e s m args below meth c D dA N A G H locs ls hR hS hO hl
  obtain ⟨hx, hb, hr, hlk, hml, hown, hts, ⟨hK, hNq⟩, hnm⟩ := G.1
  exact lv_aload_n hx hb hd hi (fv_lk hl hg) (kk p l e s m args below meth c D dA N A G H locs ls hR hS hO hl)

theorem fo_istore_n {n : Fin 4} {i : Nat} {x : Int32} {lv2 : fv_L} (hd : decode y.2.1 pc = .ok (.istore_n n, 1)) (hi : (n : Nat) = i) (hn : i < y.2.2.1) (hp : fv_p1 lv i (.int x) = lv2) (kk : fo_At y d mc ms Q (pc + 1) lv2 (st) f al k t) : fo_At y d mc ms Q pc lv (.int x :: st) f al k t := by
  intro p l e s m args below meth c D dA N A G H locs ls hR hS hO hl
  obtain ⟨hx, hb, hr, hlk, hml, hown, hts, ⟨hK, hNq⟩, hnm⟩ := G.1
  exact lv_istore_n hx hb hd hi hl hn rfl (fun ls2 hl2 => kk p l e s m args below meth c D dA N A G H locs ls2 hR hS hO (by rw [← hp]; exact fv_h1 hl2))

theorem fo_icmp_ge {x z : Int32} {off : Int} {tgt : Nat} (hd : decode y.2.1 pc = .ok (.if_icmp .ge off, 3)) (ht : (pc : Int) + off = (tgt : Int)) (kt : (z ≤ x) → fo_At y d mc ms Q tgt lv st f al k t) (kf : ¬ (z ≤ x) → fo_At y d mc ms Q (pc + 3) lv st f al k t) : fo_At y d mc ms Q pc lv (.int z :: .int x :: st) f al k t := by
  intro p l e s m args below meth c D dA N A G H locs ls hR hS hO hl
  obtain ⟨hx, hb, hr, hlk, hml, hown, hts, ⟨hK, hNq⟩, hnm⟩ := G.1
  exact lv_icmp_ge hx hb hd ht (fun h => kt h p l e s m args below meth c D dA N A G H locs ls hR hS hO hl) (fun h => kf h p l e s m args below meth c D dA N A G H locs ls hR hS hO hl)

theorem fo_goto {off : Int} {tgt : Nat} (hd : decode y.2.1 pc = .ok (.goto off, 3)) (ht : (pc : Int) + off = (tgt : Int)) (kk : fo_At y d mc ms Q tgt lv st f al k t) : fo_At y d mc ms Q pc lv st f al k t := by
  intro p l e s m args below meth c D dA N A G H locs ls hR hS hO hl
  obtain ⟨hx, hb, hr, hlk, hml, hown, hts, ⟨hK, hNq⟩, hnm⟩ := G.1
  exact lv_goto hx hb hd ht (kk p l e s m args below meth c D dA N A G H locs ls hR hS hO hl)

theorem fo_iinc {i : Nat} {n : Int} {x v : Int32} {lv2 : fv_L} (hd : decode y.2.1 pc = .ok (.iinc i n, 3)) (hg : fv_g lv i = some (.int x)) (hv : x + Int32.ofInt n = v) (hn : i < y.2.2.1) (hp : fv_p1 lv i (.int v) = lv2) (kk : fo_At y d mc ms Q (pc + 3) lv2 (st) f al k t) : fo_At y d mc ms Q pc lv (st) f al k t := by
  intro p l e s m args below meth c D dA N A G H locs ls hR hS hO hl
  obtain ⟨hx, hb, hr, hlk, hml, hown, hts, ⟨hK, hNq⟩, hnm⟩ := G.1
  obtain ⟨j, hj⟩ := fv_lx hl hg
  exact lv_iinc hx hb hd hl hj hv hn rfl (fun ls2 hl2 => kk p l e s m args below meth c D dA N A G H locs ls2 hR hS hO (by rw [← hp]; exact fv_h1 hl2))

theorem fo_dup {v : Value} (hd : decode y.2.1 pc = .ok (.dup, 1)) (hc : v.category = 1) (kk : fo_At y d mc ms Q (pc + 1) lv (v :: v :: st) f al k t) : fo_At y d mc ms Q pc lv (v :: st) f al k t := by
  intro p l e s m args below meth c D dA N A G H locs ls hR hS hO hl
  obtain ⟨hx, hb, hr, hlk, hml, hown, hts, ⟨hK, hNq⟩, hnm⟩ := G.1
  exact lv_dup hx hb hd (by rw [fv_cat]; exact hc) (kk p l e s m args below meth c D dA N A G H locs ls hR hS hO hl)

theorem fo_getf {a idx ci j : Nat} {fin : Bool} {ty : FieldType} {fs : List Value} {v : Value} (hd : decode y.2.1 pc = .ok (.getfield idx, 3)) (hp : fv_fd y.1.cls idx ci j fin ty) (hf : f a = some (.inr (ci, fs))) (hv : fs[j]? = some v) (kk : fo_At y d mc ms Q (pc + 3) lv (v :: st) f al k t) : fo_At y d mc ms Q pc lv (.ref a :: st) f al k t := by
  intro p l e s m args below meth c D dA N A G H locs ls hR hS hO hl
  obtain ⟨hx, hb, hr, hlk, hml, hown, hts, ⟨hK, hNq⟩, hnm⟩ := G.1
  obtain ⟨C, T, n, ty0, ⟨hc, hin, -, -⟩, hk, hlink, -, -⟩ := hp
  exact va_get hx hb hts hin hown hK (fv_R1 hR hf) 0 rfl hc j hk (hts _ hlink) (fun _ h => h) (v := fv_v N v) (by rw [List.getElem?_map, hv]; rfl) hd (kk p l e s m args below meth c D dA N A G H locs ls hR hS hO hl)

theorem fo_putf {a idx ci j : Nat} {ty : FieldType} {fs : List Value} {v : Value} (hd : decode y.2.1 pc = .ok (.putfield idx, 3)) (hp : fv_fd y.1.cls idx ci j false ty) (hf : f a = some (.inr (ci, fs))) (hn : ∀ N, narrow ty (fv_v N v) = fv_v N v) (hfit : ∀ N, fits ty (fv_v N v) = true) (hj : j < fs.length)
    (kk : fo_At y d mc ms Q (pc + 3) lv st (fv_set f a (.inr (ci, fs.set j v))) al k t) : fo_At y d mc ms Q pc lv (v :: .ref a :: st) f al k t := by
  intro p l e s m args below meth c D dA N A G H locs ls hR hS hO hl
  obtain ⟨hx, hb, hr, hlk, hml, hown, hts, ⟨hK, hNq⟩, hnm⟩ := G.1
  obtain ⟨C, T, n, ty0, ⟨hc, hin, hty, hnam⟩, hk, hlink, hfin, hty1, -⟩ := hp
  have hap := va_apart (own := y.1.cls) hts hin ty0 hty hnam hK hc
  obtain ⟨hA, r, h1, cell, q1, q2, q3, q4⟩ := hR a _ hf
  have hr2 : r = (C, T, n) := Option.some.inj (h1.symm.trans hc)
  subst hr2
  obtain ⟨hSl, hfc, kC, hkC, hkind⟩ := hK.1 ci _ hc
  obtain ⟨cf, kf, fi, fd, hi, hsl⟩ := hSl j hk
  have hlay := hts _ (hin _ (u_in_lay hk))
  unfold u_lay at hlay
  rw [if_neg (by rw [hfin]; decide)] at hlay
  have hst := (u_facts hfc hkC (u_lays hts hin hk) hi).1
  have h6 := u_store (v := fv_v N v) hfc hkC hkind hlay hi ((hty j hk).trans (by rw [hty1])) (hn N) (hfit N)
  refine W.putK hx hb (f := fd) ⟨hown, hts _ hlink, ⟨_, _, _, hi⟩, hst⟩ (by rw [q2]; exact h6) q1 q3 (by rw [hsl]; exact k2_hasslot (q4 j hk)) rfl rfl hd fun H' e1 e2 e3 => ?_
  rw [hsl] at e1 ⊢
  refine kk p l e s m args below meth c D dA N A G H' _ ls (fv_Rset hR hf ⟨_, hc, t_OB.to (V := updV (vp_V (fs.map (fv_v N))) j (fv_v N v)) ⟨_, e1, q2, q3, t_set q4 hap hk (fv_v N v)⟩ (fun i _ => ?_)⟩ e3) (hS.put e2 e3 hA) (fv_Oset hO e2) hl
  rw [vp_updV_set (by rw [List.length_map]; exact hj)]
  show vp_V ((fs.map (fv_v N)).set j (fv_v N v)) i = vp_V ((fs.set j v).map (fv_v N)) i
  rw [List.map_set]

theorem fo_vret (hd : decode y.2.1 pc = .ok (.return_, 1)) (hr : y.2.2.2 = none) (hk : k = mc) (ht : t = ms) (hq : Q none f al) : fo_At y d mc ms Q pc lv [] f al k t := by
  intro p l e s m args below meth c D dA N A G H locs ls hR hS hO hl
  obtain ⟨hx, hb, hret, hlk, hml, hown, hts, ⟨hK, hNq⟩, hnm⟩ := G.1
  subst hk; subst ht
  exact W.vret hx hb (hret.trans hr) (fv_done (p := p) (l := l) (e := e) (m := m) (meth := meth) (c := c) (r := none) hR hS hO hq) hS.2.2 hd hlk

theorem fo_behind {p : Program} {l : Launch} {e : Env} {s : State} {m : MethodId} {args : Array Value} {below : List Frame} {meth : Method} {c : Code} {D : va_G} {dA : Nat → ClassId} {N : Nat} {A : Nat → Prop} {H : Heap} {locs : List Loc} {ls : Array Slot} {a : Array Value} {Q2 : Option Value → fv_F → Option Nat → Prop} {mc2 ms2 : Nat} {rest : List Value}
    (G : fo_G y p s m args meth c D dA) (hr : va_Run p l e (fv_rm d mc ms) s m args below meth c H locs k t mc2 ms2 (F0 m pc ls st) (rest.map (fv_v N)) (fv_Qc D dA N A Q2 a) A) (hS : va_S A s.heap H locs) (hl : lv_has ls y.2.2.1 (lv.map (fv_cN N)))
    (kk : ∀ (r : Option Value) (f2 : fv_F) (al2 : Option Nat), Q2 r f2 al2 → fo_At y d mc ms Q (pc + 3) lv (r.toList ++ rest) f2 al2 (k + mc2) (t + ms2)) :
    W p l e (fv_rm d mc ms) s m args below meth c H locs k t (MQ below (fv_Qc D dA N A Q) args s mc ms A) (F0 m pc ls st) := by
  intro T hT X
  obtain ⟨v, st₀, t', T', L, h0, X', hL, e1, e2, ⟨r, f2, al2, hv, hq, hR2, hO2, hz, hk⟩, stp⟩ := hr T hT X
  cases hv
  rw [h0] at hz hk
  rw [← e1] at hR2 hO2 hz hk
  have hS2 : va_S A s.heap T'.heap (locs ++ L) := ⟨Nat.le_trans hS.1 hz, fun q h1 h2 => by rw [hk q (Nat.lt_of_lt_of_le h1 hS.1) h2]; exact hS.2.1 q h1 h2, fun q hq => by
    rcases List.mem_append.mp hq with h | h
    · exact hS.2.2 q h
    · exact hL q h⟩
  obtain ⟨t2, a1, b1⟩ := kk r f2 al2 hq p l e s m args below meth c D dA N A G T'.heap (locs ++ L) ls hR2 hS2 hO2 hl T' rfl X'
  refine ⟨t2, stp t2 ?_, b1⟩
  have e3 : (r.map (fv_v N)).toList ++ rest.map (fv_v N) = (r.toList ++ rest).map (fv_v N) := by
    cases r <;> rfl
  show Steps p.tables e below (T'.setTop { F0 m pc ls st with pc := pc + 3, stack := (r.map (fv_v N)).toList ++ rest.map (fv_v N) }) t2
  rw [e3]
  exact a1

theorem fo_callI {idx : Nat} {y2 : fv_Y} {n d2 mc2 ms2 b : Nat} {as rest : List Value} {Q2 : Option Value → fv_F → Option Nat → Prop} (hd : decode y.2.1 pc = .ok (.invokespecial idx, 3)) (hp : fv_mI y.1.cls idx y2 n) (hM : fo_M y2 d2 mc2 ms2 (.ref b :: as) f al Q2) (hst : st = as.reverse ++ .ref b :: rest) (hn : as.length = n) (hdep : d2 < d) (hcat : (rest.map fun v => v.category).sum ≤ 8) (hmc : k + mc2 ≤ mc) (hms : t + ms2 ≤ ms)
    (kk : ∀ (r : Option Value) (f2 : fv_F) (al2 : Option Nat), Q2 r f2 al2 → fo_At y d mc ms Q (pc + 3) lv (r.toList ++ rest) f2 al2 (k + mc2) (t + ms2)) : fo_At y d mc ms Q pc lv st f al k t := by
  intro p l e s m args below meth c D dA N A G H locs ls hR hS hO hl
  obtain ⟨hx, hb, hret, hlk, hml, hown, hts, ⟨hK, hNq⟩, hnm⟩ := G.1
  obtain ⟨⟨h1, h2, h3, h4, h5⟩, h6, h7, h8⟩ := hp
  subst hst
  have hs : (as.reverse ++ .ref b :: rest).map (fv_v N) = (as.map (fv_v N)).reverse ++ .ref (N + b) :: rest.map (fv_v N) := by rw [List.map_append, List.map_reverse]; rfl
  rw [hs]
  have cw := callB_of (R := fv_rm d mc ms) (rm := fv_rm d2 mc2 ms2) n hts (fv_wsG h3) rfl rfl rfl (hts _ h2) (hts _ h1) h4 ⟨hdep, by show 8 + (_ + 11) + 64 * d2 ≤ 64 * d; omega⟩
  rw [h8] at cw
  exact fo_behind G (va_runI (As := as.map (fv_v N)) (b := N + b) ⟨hx, hb, hml, hown, hts⟩ (hM l D dA N A) ⟨cw, h7, hts _ h6⟩ ⟨fo_blind, fun U hU hW => ⟨⟨rfl, by rw [hU]; exact hR, fv_Kw hW ⟨hK, hNq⟩, by rw [hU]; exact hO⟩, fo_Kw hW G.2⟩⟩ rfl (by rw [List.length_map]; exact hn) hl.1 rfl (lv_room (by rw [fv_catS]; exact hcat)) hd ⟨hmc, hms⟩) hS hl kk

theorem fo_callIN {idx : Nat} {y2 : fv_Y} {n d2 mc2 ms2 b : Nat} {as rest : List Value} {Q2 : Option Value → fv_F → Option Nat → Prop} (hd : decode y.2.1 pc = .ok (.invokespecial idx, 3)) (hp : fv_mIN y.1.cls idx y2 n) (hM : fo_M y2 d2 mc2 ms2 (.ref b :: as) f al Q2) (hst : st = as.reverse ++ .ref b :: rest) (hn : as.length = n) (hdep : d2 < d) (hcat : (rest.map fun v => v.category).sum ≤ 8) (hmc : k + mc2 ≤ mc) (hms : t + ms2 ≤ ms)
    (kk : ∀ (r : Option Value) (f2 : fv_F) (al2 : Option Nat), Q2 r f2 al2 → fo_At y d mc ms Q (pc + 3) lv (r.toList ++ rest) f2 al2 (k + mc2) (t + ms2)) : fo_At y d mc ms Q pc lv st f al k t := by
  intro p l e s m args below meth c D dA N A G H locs ls hR hS hO hl
  obtain ⟨hx, hb, hret, hlk, hml, hown, hts, ⟨hK, hNq⟩, hnm⟩ := G.1
  obtain ⟨h1, h6, h7, h8⟩ := hp
  subst hst
  have hs : (as.reverse ++ .ref b :: rest).map (fv_v N) = (as.map (fv_v N)).reverse ++ .ref (N + b) :: rest.map (fv_v N) := by rw [List.map_append, List.map_reverse]; rfl
  rw [hs]
  have cw := fv_CN (mc := mc) (ms := ms) (mc2 := mc2) (ms2 := ms2) hts hNq h1 hdep
  rw [h8] at cw
  exact fo_behind G (va_runIN (As := as.map (fv_v N)) (b := N + b) ⟨hx, hb, hml, hown, hts⟩ (hM l D dA N A) ⟨cw, h7, hts _ h6⟩ ⟨fo_blind, fun U hU hW => ⟨⟨rfl, by rw [hU]; exact hR, fv_Kw hW ⟨hK, hNq⟩, by rw [hU]; exact hO⟩, fo_Kw hW G.2⟩⟩ rfl (by rw [List.length_map]; exact hn) hl.1 rfl (lv_room (by rw [fv_catS]; exact hcat)) hd ⟨hmc, hms⟩) hS hl kk

theorem fo_enter {as : List Value} (hy : plainName y.1.cls = true) (hl : (as.map fun v => v.category).sum ≤ y.2.2.1) (kk : fo_At y d mc ms Q 0 (lv_args 0 as) [] f al 0 0) : fo_M y d mc ms as f al Q := by
  intro l D dA N A
  refine Met.ofW (cc := y.2.1) (maxL := y.2.2.1) (ret := y.2.2.2) hy rfl ?_
  intro p e s m args below meth c s₁ B hml hv
  obtain ⟨⟨rfl, hR, hK, hO⟩, hFo⟩ := hv
  have hts := atoms_spec (ws := fv_ws y) B.pre
  have hown : s.vm.findClass y.1.cls = some m.cls := findClass_of_methodNamed B.named
  rw [lg_entry_eq]
  have hl2 := lv_entry (as.map (fv_v N)) (n := y.2.2.1) (by rw [fv_slen, fv_catS]; exact hl)
  rw [fv_argsN] at hl2
  exact kk p l e s m _ below meth c D dA N A ⟨⟨B.exec, B.bytes, B.returns, B.notSynchronized, hml, hown, fun w hw => hts w (List.mem_cons_of_mem _ hw), hK, (name_of_methodNamed B.named B.method).1⟩, hFo⟩ s.heap [] _ hR va_S.rf hO hl2

theorem fo_newa {n ta len : Nat} {atype : ArrayType} {a0 : vp_A} (hd : decode y.2.1 pc = .ok (.newarray atype, 2)) (hw : Cond.arrayClass (newarray.typeOf atype) ∈ fv_tbl) (hta : ∀ dA : Nat → ClassId, (fv_tys dA)[ta]? = some (dA ta, newarray.typeOf atype)) (hnm : ∀ (s : State) (cA : ClassId), va_RA s cA (newarray.typeOf atype) → s.vm.findClass ("[" ++ (newarray.typeOf atype).toString) = some cA) (ha : ∀ (N : Nat) (cA : ClassId), vp_cell cA (fv_a N a0) = arrV cA len (fun _ => defaultValue (newarray.typeOf atype))) (hl : len < 2 ^ 31) (hbytes : len * componentBytes (newarray.typeOf atype) ≤ 536870912) (hk : k + 1 ≤ mc) (ht : t + len ≤ ms)
    (kk : fo_At y d mc ms Q (pc + 2) lv (.ref n :: st) (fv_set f n (.inl (ta, a0))) (some (n + 1)) (k + 1) (t + len)) : fo_At y d mc ms Q pc lv (.int (nI len) :: st) f (some n) k t := by
  intro p l e s m args below meth c D dA N A G H locs ls hR hS hO hlv
  obtain ⟨hx, hb, hr, hlk, hml, hown, hts, ⟨hK, hNq⟩, hmn⟩ := G.1
  have hz := (hO n rfl).1
  refine va_newaK hx hb (hts _ hw) rfl hd rfl (nI_nn hl) (nI_clamp hl) hbytes hk ht hz fun H1 cA e1 z1 o1 hAr hNm => ?_
  have hc : cA = dA ta := Option.some.inj (hNm.symm.trans (hnm s _ (hK.2 ta _ (hta dA)).2))
  subst hc
  have o2 : ∀ q : Nat, q < H.size → H1[q]? = H[q]? := fun q hq => o1 q (by omega)
  exact kk p l e s m args below meth c D dA N A G H1 locs ls (fv_Rpush hR hO (by show H1[N + n]? = some (vp_cell (dA ta) (fv_a N a0)); rw [ha]; exact e1) o2) (fv_Spush hS (by omega) o2) (fv_Opush hO (by omega)) hlv

theorem fo_newI {n len : Nat} (hd : decode y.2.1 pc = .ok (.newarray .int, 2)) (hw : Cond.arrayClass .int ∈ fv_tbl) (hl : len ≤ 67108864) (hk : k + 1 ≤ mc) (ht : t + len ≤ ms) (kk : fo_At y d mc ms Q (pc + 2) lv (.ref n :: st) (fv_set f n (.inl (0, len, .inl (fun _ => 0)))) (some (n + 1)) (k + 1) (t + len)) : fo_At y d mc ms Q pc lv (.int (nI len) :: st) f (some n) k t :=
  fo_newa hd hw (fun _ => rfl) (fun _ _ h => h) (fun _ _ => rfl) (by omega) (by show len * 4 ≤ _; omega) hk ht kk

theorem fo_newJ {n len : Nat} (hd : decode y.2.1 pc = .ok (.newarray .long, 2)) (hw : Cond.arrayClass .long ∈ fv_tbl) (hl : len ≤ 67108864) (hk : k + 1 ≤ mc) (ht : t + len ≤ ms) (kk : fo_At y d mc ms Q (pc + 2) lv (.ref n :: st) (fv_set f n (.inl (1, len, .inr (.inl (fun _ => 0))))) (some (n + 1)) (k + 1) (t + len)) : fo_At y d mc ms Q pc lv (.int (nI len) :: st) f (some n) k t :=
  fo_newa hd hw (fun _ => rfl) (fun _ _ h => h) (fun _ _ => rfl) (by omega) (by show len * 8 ≤ _; omega) hk ht kk

theorem fo_new {n idx ci nf : Nat} {C : String} {T : u_T} {ty0 : Nat → FieldType} {fs : List Value} (hd : decode y.2.1 pc = .ok (.new idx, 3)) (hc : fv_cls ci C T nf ty0) (hn : fv_nw y.1.cls idx C nf) (hfs : ∀ j, j < nf → defaultValue (ty0 j) = vp_V fs j) (hfv : ∀ N, fs.map (fv_v N) = fs) (hk : k + 1 ≤ mc) (ht : t + nf ≤ ms)
    (kk : fo_At y d mc ms Q (pc + 3) lv (.ref n :: st) (fv_set f n (.inr (ci, fs))) (some (n + 1)) (k + 1) (t + nf)) : fo_At y d mc ms Q pc lv st f (some n) k t := by
  intro p l e s m args below meth c D dA N A G H locs ls hR hS hO hlv
  obtain ⟨hx, hb, hr, hlk, hml, hown, hts, ⟨hK, hNq⟩, hmn⟩ := G.1
  have hz := (hO n rfl).1
  obtain ⟨hc1, hin, hty, hnam⟩ := hc
  have hKn := hK.1 ci _ hc1
  refine W.newcK hx hb hown (hts _ hn.1) (hts _ hn.2.1) (hts _ hn.2.2) rfl hd hk ht hKn.2.1 rfl fun H1 kC hkC e1 z1 o1 => ?_
  have hat : va_at D fv_cl (N + n, fv_e N dA (.inr (ci, fs))) H1 := by
    rw [← hz]
    show va_at D fv_cl (H.size, .inr (ci, fs.map (fv_v N))) H1
    rw [hfv]
    exact ⟨_, hc1, (u_born ty0 hts hin hKn hkC e1 hty).to hfs⟩
  have kk2 := kk p l e s m args below meth c D dA N A G H1 locs ls (fv_Rpush hR hO hat o1) (fv_Spush hS (by omega) o1) (fv_Opush hO (by omega)) hlv
  have e2 : H.size = N + n := hz
  rw [e2]
  exact kk2

theorem fo_putF {a idx ci j : Nat} {ty : FieldType} {fs : List Value} {v : Value} (hd : decode y.2.1 pc = .ok (.putfield idx, 3)) (hp : fv_fd y.1.cls idx ci j true ty) (hin2 : y.1.name = "<init>") (hf : f a = some (.inr (ci, fs))) (hn : ∀ N, narrow ty (fv_v N v) = fv_v N v) (hfit : ∀ N, fits ty (fv_v N v) = true) (hj : j < fs.length)
    (kk : fo_At y d mc ms Q (pc + 3) lv st (fv_set f a (.inr (ci, fs.set j v))) al k t) : fo_At y d mc ms Q pc lv (v :: .ref a :: st) f al k t := by
  intro p l e s m args below meth c D dA N A G H locs ls hR hS hO hl
  obtain ⟨hx, hb, hr, hlk, hml, hown, hts, ⟨hK, hNq⟩, hnm⟩ := G.1
  obtain ⟨C, T, n, ty0, ⟨hc, hin, hty, hnam⟩, hk, hlink, hfin, hty1, hdecl⟩ := hp
  have hap := va_apart (own := y.1.cls) hts hin ty0 hty hnam hK hc
  obtain ⟨hA, r, h1, cell, q1, q2, q3, q4⟩ := hR a _ hf
  have hr2 : r = (C, T, n) := Option.some.inj (h1.symm.trans hc)
  subst hr2
  obtain ⟨hSl, hfc, kC, hkC, hkind⟩ := hK.1 ci _ hc
  obtain ⟨cf, kf, fi, fd, hi, hsl⟩ := hSl j hk
  have hlay := hts _ (hin _ (u_in_lay hk))
  unfold u_lay at hlay
  rw [if_pos hfin] at hlay
  have hst := (u_facts hfc hkC (u_lays hts hin hk) hi).1
  have hcf : m.cls = cf := by
    obtain ⟨_, _, c', _, _, _, -, -, hf', -, -, -, hown2, -⟩ := Cond.laysFinal_spec hlay
    have e1 : c' = cf := by have := hi.symm.trans hf'; simp at this; exact this.1.symm
    rw [hdecl rfl] at hown2
    rw [← e1]; exact Option.some.inj (hown.symm.trans hown2)
  have h6 := u_fits (v := fv_v N v) hfc hkC hkind (Or.inr hlay) hi ((hty j hk).trans (by rw [hty1])) (hn N) (hfit N)
  refine W.putFinK hx hb hown (hts _ hlink) hi hst hcf (hnm.trans hin2) (by rw [q2]; exact h6) q1 q3 (by rw [hsl]; exact k2_hasslot (q4 j hk)) rfl rfl hd fun H' e1 e2 e3 => ?_
  have hsl2 := hsl
  rw [hsl] at e1 ⊢
  refine kk p l e s m args below meth c D dA N A G H' _ ls (fv_Rset hR hf ⟨_, hc, t_OB.to (V := updV (vp_V (fs.map (fv_v N))) j (fv_v N v)) ⟨_, e1, q2, q3, t_set q4 hap hk (fv_v N v)⟩ (fun i _ => ?_)⟩ e3) (hS.put e2 e3 hA) (fv_Oset hO e2) hl
  rw [vp_updV_set (by rw [List.length_map]; exact hj)]
  show vp_V ((fs.map (fv_v N)).set j (fv_v N v)) i = vp_V ((fs.set j v).map (fv_v N)) i
  rw [List.map_set]

theorem fo_anew {n ta len idx : Nat} {C : String} (hd : decode y.2.1 pc = .ok (.anewarray idx, 3)) (hcl : Cond.classLink y.1.cls idx C ∈ fv_tbl) (hov : ∀ s, fo_K s → va_AO C s) (hta : ∀ dA : Nat → ClassId, (fv_tys dA)[ta]? = some (dA ta, .object C)) (hl : len ≤ 67108864) (hk : k + 1 ≤ mc) (ht : t + len ≤ ms)
    (kk : fo_At y d mc ms Q (pc + 3) lv (.ref n :: st) (fv_set f n (.inl (ta, len, .inr (.inr (.inr (.inr (fun _ => none))))))) (some (n + 1)) (k + 1) (t + len)) : fo_At y d mc ms Q pc lv (.int (nI len) :: st) f (some n) k t := by
  intro p l e s m args below meth c D dA N A G H locs ls hR hS hO hlv
  obtain ⟨hx, hb, hr, hlk, hml, hown, hts, ⟨hK, hNq⟩, hmn⟩ := G.1
  have hz := (hO n rfl).1
  have hcl2 := nI_clamp (show len < 2 ^ 31 by omega)
  refine W.anew hx hb hown (hts _ hcl) (va_AO.use (hov s G.2)) rfl hd rfl (nI_nn (by omega)) (by rw [hcl2]; omega) hk (by rw [hcl2]; exact ht) fun cA kA comp f1 f2 f3 f4 => ?_
  obtain ⟨kA2, comp2, -, -, -, g4⟩ := (hK.2 ta _ (hta dA)).2
  have hc : cA = dA ta := Option.some.inj (f1.symm.trans g4)
  subst hc
  rw [hcl2]
  generalize hH1 : H.push ({ cls := dA ta, slots := Array.replicate len .null, vm := .none } : Cell) = H1
  have z1 : H1.size = H.size + 1 := by rw [← hH1, Array.size_push]
  have e1 : H1[H.size]? = some (arrV (dA ta) len (fun _ => .null)) := by rw [← hH1, Array.getElem?_push_size, ← arrV_new]
  have o1 : ∀ q : Nat, q < H.size → H1[q]? = H[q]? := fun q hq => by rw [← hH1, Array.getElem?_push, if_neg (Nat.ne_of_lt hq)]
  have kk2 := kk p l e s m args below meth c D dA N A G H1 locs ls (fv_Rpush hR hO (by
    show H1[N + n]? = some (vp_cell (dA ta) (len, .inr (.inr (.inr (.inr (fv_r N (fun _ => none)))))))
    rw [← hz, e1]
    rfl) o1) (fv_Spush hS (by omega) o1) (fv_Opush hO z1) hlv
  have e2 : H.size = N + n := hz
  rw [e2]
  exact kk2

theorem fo_aast {a b n ta ci j : Nat} {C : String} {T : u_T} {nf : Nat} {ty0 : Nat → FieldType} {g : Nat → Option Nat} {fs : List Value} {i : Int32} (hd : decode y.2.1 pc = .ok (.aastore, 1)) (hf : f a = some (.inl (ta, n, .inr (.inr (.inr (.inr g)))))) (hta : ∀ dA : Nat → ClassId, (fv_tys dA)[ta]? = some (dA ta, .object C)) (hv : f b = some (.inr (ci, fs))) (hc : fv_cls ci C T nf ty0) (hi : i = nI j) (hj : j < n) (hn : n < 2 ^ 31)
    (kk : fo_At y d mc ms Q (pc + 1) lv st (fv_set f a (.inl (ta, n, .inr (.inr (.inr (.inr (va_up g j (some b)))))))) al k t) : fo_At y d mc ms Q pc lv (.ref b :: .int i :: .ref a :: st) f al k t := by
  intro p l e s m args below meth c D dA N A G H locs ls hR hS hO hl
  obtain ⟨hx, hb, hr, hlk, hml, hown, hts, ⟨hK, hNq⟩, hnm⟩ := G.1
  subst hi
  obtain ⟨hA, h1⟩ := hR a _ hf
  obtain ⟨hA2, r', hr', cellV, g1, g2, g3, -⟩ := hR b _ hv
  have hcls := (hK.1 ci _ hc.1).2
  obtain ⟨kA, comp, k1, k2, k3, -⟩ := (hK.2 ta _ (hta dA)).2
  have hcomp : comp = D.1 ci := Option.some.inj (k3.symm.trans hcls.1)
  subst hcomp
  obtain ⟨kC, hkC, -⟩ := hcls.2
  have hj2 : (nI j).toNatClampNeg = j := nI_clamp (by omega)
  refine W.aast hx hb h1 (fun q h => by cases h) (fun h => by cases h) k1 k2 rfl hkC ⟨nI_nn (by omega), by show _ < (arrV _ _ _).slots.size; rw [arrV_size, hj2]; exact hj⟩ g1 (fun q h => by rw [g3] at h; cases h) (by rw [g2]; exact hkC) (by rw [g2]; exact va_assign hcls) rfl rfl hd fun H1 e1 z oq => ?_
  refine kk p l e s m args below meth c D dA N A G H1 _ ls (fv_Rset hR hf ?_ oq) (hS.put z oq hA) (fv_Oset hO z) hl
  rw [hj2] at e1
  show H1[N + a]? = some (vp_cell _ _)
  rw [e1]
  show some ((vp_cell (dA ta) (n, .inr (.inr (.inr (.inr (fv_r N g)))))).setSlot j (.ref (N + b))) = some (vp_cell (dA ta) (n, .inr (.inr (.inr (.inr (fv_r N (va_up g j (some b))))))))
  rw [vp_cell_q, vp_cell_q, arrV_store]
  congr 2
  funext q
  by_cases hq : q = j
  · subst hq
    simp [updV, va_up, va_rf, fv_r]
  · simp [updV, va_up, hq, fv_r]

theorem fo_objI {a idx : Nat} (hd : decode y.2.1 pc = .ok (.invokespecial idx, 3)) (h1 : Cond.methodLink y.1.cls idx Lib.objectInit ∈ fv_tbl) (h2 : Cond.instanceMethod Lib.objectInit ∈ fv_tbl) (h3 : Cond.code Lib.objectInit ⟨#[0xb1]⟩ 1 none ∈ fv_tbl) (hd1 : 1 ≤ d) (hcat : (st.map fun v => v.category).sum ≤ 8)
    (kk : fo_At y d mc ms Q (pc + 3) lv st f al k t) : fo_At y d mc ms Q pc lv (.ref a :: st) f al k t := by
  intro p l e s m args below meth c D dA N A G H locs ls hR hS hO hl
  obtain ⟨hx, hb, hr, hlk, hml, hown, hts, ⟨hK, hNq⟩, hnm⟩ := G.1
  refine W.objInit hx hb hown (hts _ h1) (hts _ h2) (hts _ h3) rfl (hl.1.trans hml.symm) rfl hd hd1 ?_ (kk p l e s m args below meth c D dA N A G H locs ls hR hS hO hl)
  rw [fv_catS]
  show 2 * 0 + (st.map fun v => v.category).sum + 12 ≤ 64 * d
  omega

end FO
section FOS
variable {y : fv_Y} {d mc ms : Nat} {Q : Option Value → fv_F → Option Nat → Prop} {pc : Nat} {lv : fv_L} {st : List Value} {f : fv_F} {k t k1 t1 : Nat} {W : fv_F} {a n m : Nat} {o : fv_C}

theorem so_newI {len : Nat} (hd : decode y.2.1 pc = .ok (.newarray .int, 2)) (hw : Cond.arrayClass .int ∈ fv_tbl) (hl : len ≤ 67108864) (hk : k + 1 ≤ mc) (ht : t + len ≤ ms) (hW : W n = some (.inl (0, len, .inl (fun _ => 0)))) (ha : a < n) (hm : n + 1 = m) (hk1 : k + 1 = k1) (ht1 : t + len = t1) (kk : fo_At y d mc ms Q (pc + 2) lv (.ref n :: st) (stg W a o m f) (some m) k1 t1) : fo_At y d mc ms Q pc lv (.int (nI len) :: st) (stg W a o n f) (some n) k t := by
  subst hk1; subst ht1
  refine fo_newI hd hw hl hk ht ?_
  rw [stg_1 hW ha hm, hm]
  exact kk

theorem so_newJ {len : Nat} (hd : decode y.2.1 pc = .ok (.newarray .long, 2)) (hw : Cond.arrayClass .long ∈ fv_tbl) (hl : len ≤ 67108864) (hk : k + 1 ≤ mc) (ht : t + len ≤ ms) (hW : W n = some (.inl (1, len, .inr (.inl (fun _ => 0))))) (ha : a < n) (hm : n + 1 = m) (hk1 : k + 1 = k1) (ht1 : t + len = t1) (kk : fo_At y d mc ms Q (pc + 2) lv (.ref n :: st) (stg W a o m f) (some m) k1 t1) : fo_At y d mc ms Q pc lv (.int (nI len) :: st) (stg W a o n f) (some n) k t := by
  subst hk1; subst ht1
  refine fo_newJ hd hw hl hk ht ?_
  rw [stg_1 hW ha hm, hm]
  exact kk

theorem so_putF {al : Option Nat} {idx ci j : Nat} {ty : FieldType} {fs fs2 : List Value} {v : Value} (hd : decode y.2.1 pc = .ok (.putfield idx, 3)) (hp : fv_fd y.1.cls idx ci j true ty) (hin2 : y.1.name = "<init>") (hn : ∀ N, narrow ty (fv_v N v) = fv_v N v) (hfit : ∀ N, fits ty (fv_v N v) = true) (hj : j < fs.length) (hs : fs.set j v = fs2)
    (kk : fo_At y d mc ms Q (pc + 3) lv st (stg W a (.inr (ci, fs2)) n f) al k t) : fo_At y d mc ms Q pc lv (v :: .ref a :: st) (stg W a (.inr (ci, fs)) n f) al k t := by
  refine fo_putF hd hp hin2 stg_5 hn hfit hj ?_
  rw [stg_2, hs]
  exact kk

theorem so_putf {al : Option Nat} {idx ci j : Nat} {ty : FieldType} {fs fs2 : List Value} {v : Value} (hd : decode y.2.1 pc = .ok (.putfield idx, 3)) (hp : fv_fd y.1.cls idx ci j false ty) (hn : ∀ N, narrow ty (fv_v N v) = fv_v N v) (hfit : ∀ N, fits ty (fv_v N v) = true) (hj : j < fs.length) (hs : fs.set j v = fs2)
    (kk : fo_At y d mc ms Q (pc + 3) lv st (stg W a (.inr (ci, fs2)) n f) al k t) : fo_At y d mc ms Q pc lv (v :: .ref a :: st) (stg W a (.inr (ci, fs)) n f) al k t := by
  refine fo_putf hd hp stg_5 hn hfit hj ?_
  rw [stg_2, hs]
  exact kk

theorem so_new {idx ci nf : Nat} {C : String} {T : u_T} {ty0 : Nat → FieldType} {fs : List Value} {g : fv_F} (hd : decode y.2.1 pc = .ok (.new idx, 3)) (hc : fv_cls ci C T nf ty0) (hn : fv_nw y.1.cls idx C nf) (hfs : (∀ j, j < nf → defaultValue (ty0 j) = vp_V fs j) ∧ ∀ N, fs.map (fv_v N) = fs) (hk : k + 1 ≤ mc) (ht : t + nf ≤ ms) (hm : n + 1 = m) (hk1 : k + 1 = k1) (ht1 : t + nf = t1)
    (kk : fo_At y d mc ms Q (pc + 3) lv (.ref n :: st) (fv_set g n (.inr (ci, fs))) (some m) k1 t1) : fo_At y d mc ms Q pc lv st g (some n) k t := by
  subst hk1; subst ht1
  refine fo_new hd hc hn hfs.1 hfs.2 hk ht ?_
  rw [hm]
  exact kk

theorem so_callN {idx mc2 ms2 d2 b : Nat} {y2 : fv_Y} {c : fv_C} {rest : List Value} (hd : decode y.2.1 pc = .ok (.invokespecial idx, 3)) (hp : fv_mIN y.1.cls idx y2 0) (hM : fo_M y2 d2 mc2 ms2 [.ref n] (fv_set (stg W a o n f) n c) (some m) (qfil W n b (fv_set (stg W a o n f) n c))) (ha : a < n) (hb : n < b) (hdep : d2 < d) (hcat : (rest.map fun v => v.category).sum ≤ 8) (hmc : k + mc2 ≤ mc) (hms : t + ms2 ≤ ms) (hk1 : k + mc2 = k1) (ht1 : t + ms2 = t1)
    (kk : fo_At y d mc ms Q (pc + 3) lv rest (stg W a o b f) (some b) k1 t1) : fo_At y d mc ms Q pc lv (.ref n :: rest) (fv_set (stg W a o n f) n c) (some m) k t := by
  subst hk1; subst ht1
  refine fo_callIN (as := []) (rest := rest) hd hp hM rfl rfl hdep hcat hmc hms ?_
  rintro r f2 al2 ⟨rfl, rfl, rfl⟩
  rw [stg_3 ha hb]
  exact kk

theorem so_callI {idx mc2 ms2 d2 b : Nat} {y2 : fv_Y} {c : fv_C} {rest : List Value} (hd : decode y.2.1 pc = .ok (.invokespecial idx, 3)) (hp : fv_mI y.1.cls idx y2 0) (hM : fo_M y2 d2 mc2 ms2 [.ref n] (fv_set (stg W a o n f) n c) (some m) (qfil W n b (fv_set (stg W a o n f) n c))) (ha : a < n) (hb : n < b) (hdep : d2 < d) (hcat : (rest.map fun v => v.category).sum ≤ 8) (hmc : k + mc2 ≤ mc) (hms : t + ms2 ≤ ms) (hk1 : k + mc2 = k1) (ht1 : t + ms2 = t1)
    (kk : fo_At y d mc ms Q (pc + 3) lv rest (stg W a o b f) (some b) k1 t1) : fo_At y d mc ms Q pc lv (.ref n :: rest) (fv_set (stg W a o n f) n c) (some m) k t := by
  subst hk1; subst ht1
  refine fo_callI (as := []) (rest := rest) hd hp hM rfl rfl hdep hcat hmc hms ?_
  rintro r f2 al2 ⟨rfl, rfl, rfl⟩
  rw [stg_3 ha hb]
  exact kk

theorem so_ret (hd : decode y.2.1 pc = .ok (.return_, 1)) (hr : y.2.2.2 = none) (hk : k = mc) (ht : t = ms) (hQ : Q = qfil W a n f) (h : W a = some o) (hb : a < n) : fo_At y d mc ms Q pc lv [] (stg W a o n f) (some n) k t :=
  fo_vret hd hr hk ht (by rw [hQ]; exact ⟨rfl, rfl, stg_4 h hb⟩)

theorem so_mna {idx : Nat} {g : Nat → Option Nat} (hd : decode y.2.1 pc = .ok (.multianewarray idx 2, 4)) (hcl : Cond.classLink y.1.cls idx "[[I" ∈ fv_tbl) (hW0 : W n = some (.inl (5, 5, .inr (.inr (.inr (.inr g)))))) (hg : ∀ q, g q = if q < 5 then some (n + 1 + q) else none) (hW1 : ∀ i, i < 5 → W (n + 1 + i) = some (.inl (0, 5, .inl (fun _ => 0)))) (ha : a < n) (hm : n + 6 = m) (hk : k + 6 ≤ mc) (ht : t + 30 ≤ ms) (hk1 : k + 6 = k1) (ht1 : t + 30 = t1)
    (kk : fo_At y d mc ms Q (pc + 4) lv (.ref n :: st) (stg W a o m f) (some m) k1 t1) : fo_At y d mc ms Q pc lv (.int (nI 5) :: .int (nI 5) :: st) (stg W a o n f) (some n) k t := by
  subst hk1; subst ht1; subst hm
  intro p l e s m args below meth c D dA N A G H locs ls hR hS hO hlv
  obtain ⟨hx, hb, hr, hlk, hml, hown, hts, ⟨hK, hNq⟩, hmn⟩ := G.1
  have hz := (hO n rfl).1
  have h0 := hK.2 0 _ rfl
  have h5 := hK.2 5 _ rfl
  refine W_mna hx hb hown (hts _ hcl) G.2.2.2 (c1 := dA 0) h0.2 h0.1 rfl hd rfl hk ht hz fun H1 cA hnA z1 e0 e1 e2 => ?_
  have hc : cA = dA 5 := Option.some.inj (hnA.symm.trans h5.2)
  subst hc
  have hR1 : fv_R D dA N A (stg W a o (n + 6) f) H1 := by
    intro i b hi
    by_cases q : n ≤ i ∧ i < n + 6
    · refine ⟨(hO n rfl).2 _ (Nat.le_add_right _ _), ?_⟩
      have hi2 : W i = some b := by
        unfold stg at hi
        rw [if_neg (by omega), if_pos (by omega)] at hi
        exact hi
      by_cases q0 : i = n
      · rw [q0, hW0] at hi2
        cases hi2
        rw [q0]
        show H1[N + n]? = some (vp_cell (dA 5) (5, .inr (.inr (.inr (.inr (fv_r N g))))))
        rw [e0, vp_cell_q]
        unfold mn_o
        congr 2
        funext z
        unfold fv_r
        rw [hg]
        by_cases qz : z < 5
        · rw [if_pos qz, if_pos qz]
          show Value.ref (N + n + 1 + z) = Value.ref (N + (n + 1 + z))
          rw [show N + n + 1 + z = N + (n + 1 + z) by omega]
        · rw [if_neg qz, if_neg qz]
          rfl
      · obtain ⟨z, hz1, hz2⟩ : ∃ z, z < 5 ∧ i = n + 1 + z := ⟨i - (n + 1), by omega, by omega⟩
        rw [hz2, hW1 z hz1] at hi2
        cases hi2
        rw [hz2]
        show H1[N + (n + 1 + z)]? = some (vp_cell (dA 0) (5, .inl (fun _ => 0)))
        rw [show N + (n + 1 + z) = N + n + 1 + z by omega, e1 z hz1]
        rfl
    · have hi2 : stg W a o n f i = some b := by
        unfold stg at hi ⊢
        by_cases qa : i = a
        · rw [if_pos qa] at hi ⊢
          exact hi
        · rw [if_neg qa] at hi ⊢
          by_cases qb : a < i ∧ i < n
          · rw [if_pos qb]
            rw [if_pos (by omega)] at hi
            exact hi
          · rw [if_neg qb]
            rw [if_neg (by omega)] at hi
            exact hi
      obtain ⟨g1, g2⟩ := hR i b hi2
      have hlt := g2.lt
      exact ⟨g1, g2.kept (e2 _ (by show N + i < N + n; have : N + i < H.size := hlt; omega))⟩
  have hS1 : va_S A s.heap H1 (mn_L (N + n) 5 locs) := by
    have w := fv_Spush hS (H1 := H1) (by omega) (fun q hq => e2 q (by omega))
    refine ⟨w.1, w.2.1, fun q hq => ?_⟩
    rcases mn_L_m _ _ _ _ hq with h | h
    · exact hS.2.2 q h
    · rw [h]; exact (hO n rfl).2 _ (Nat.le_add_right _ _)
  exact kk p l e s m args below meth c D dA N A G H1 _ ls hR1 hS1 (fun q hq => by cases hq; exact ⟨by omega, (hO n rfl).2⟩) hlv
end FOS
