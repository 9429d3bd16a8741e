/-! ===== a walk: from the frame at pc with these locals, stack and cells the machine comes to the method's end with Q ===== -/
def fv_G (y : fv_Y) (p : Program) (s : State) (m : MethodId) (args : Array Value) (meth : Method) (c : Code) (D : va_G) (dA : Nat → ClassId) : Prop :=
  p.tables.exec = Jvm.exec ∧ c.code = y.2.1 ∧ meth.sig.returnType = y.2.2.2 ∧ meth.locks = false ∧ c.maxLocals = y.2.2.1 ∧ s.vm.findClass y.1.cls = some m.cls ∧ (∀ w ∈ fv_tbl, w.before args s = true) ∧ fv_K D dA s ∧ meth.name = y.1.name
def fv_cN (N : Nat) (q : Nat × Value) : Nat × Value := (q.1, fv_v N q.2)
def fv_At (y : fv_Y) (d mc ms : Nat) (Q : Option Value → fv_F → Option Nat → Prop) (pc : Nat) (lv : fv_L) (st : List Value) (f : fv_F) (al : Option Nat) (k t : Nat) : Prop :=
  ∀ (p : Program) (l : Launch) (e : Env) (s : State) (m : MethodId) (args : Array Value) (below : List Frame) (meth : Method) (c : Code) (D : va_G) (dA : Nat → ClassId) (N : Nat) (A : Nat → Prop), fv_G y p s m args meth c D dA →
    ∀ (H : Heap) (locs : List Loc) (ls : Array Slot), fv_R D dA N A f H → va_S A s.heap H locs → fv_O N A al H → lv_has ls y.2.2.1 (lv.map (fv_cN N)) →
      W p l e (fv_rm d mc ms) s m args below meth c H locs k t (MQ below (fv_Qc D dA N A Q) args s mc ms A) (F0 m pc ls (st.map (fv_v N)))
def fv_g : fv_L → Nat → Option Value
  | [], _ => none
  | q :: r, i => if q.1 = i then some q.2 else fv_g r i
def fv_ins (x : Nat × Value) : fv_L → fv_L
  | [] => [x]
  | q :: r => if x.1 ≤ q.1 then x :: q :: r else q :: fv_ins x r
def fv_p1 (lv : fv_L) (i : Nat) (v : Value) : fv_L := fv_ins (i, v) (lv.filter (fun q => !(q.1 == i) && !(q.1 + 1 == i && q.2.category == 2)))
def fv_p2 (lv : fv_L) (i : Nat) (v : Value) : fv_L := fv_ins (i, v) (lv.filter (fun q => !(q.1 == i) && (!(q.1 == i + 1) && !(q.1 + 1 == i && q.2.category == 2))))
theorem fv_cat (N : Nat) (v : Value) : (fv_v N v).category = v.category := by cases v <;> rfl
theorem fv_g_mem {lv : fv_L} {i : Nat} {v : Value} (h : fv_g lv i = some v) : (i, v) ∈ lv := by
  induction lv with
  | nil => cases h
  | cons q r ih =>
    unfold fv_g at h
    split at h
    · rename_i e
      cases h
      subst e
      exact List.mem_cons_self
    · exact List.mem_cons_of_mem _ (ih h)
theorem fv_lk {ls : Array Slot} {n N : Nat} {lv : fv_L} {i : Nat} {v : Value} (h : lv_has ls n (lv.map (fv_cN N))) (hg : fv_g lv i = some v) : ls[i]? = some (.val (fv_v N v)) :=
  h.2.2 (i, fv_v N v) (List.mem_map.mpr ⟨(i, v), fv_g_mem hg, rfl⟩)
theorem fv_lx {ls : Array Slot} {n N : Nat} {lv : fv_L} {i : Nat} {v : Value} (h : lv_has ls n (lv.map (fv_cN N))) (hg : fv_g lv i = some v) : ∃ k : Nat, (lv.map (fv_cN N))[k]? = some (i, fv_v N v) :=
  List.getElem?_of_mem (List.mem_map.mpr ⟨(i, v), fv_g_mem hg, rfl⟩)
theorem fv_ins_mem {x q : Nat × Value} {lv : fv_L} (h : q ∈ fv_ins x lv) : q = x ∨ q ∈ lv := by
  induction lv with
  | nil => exact Or.inl (List.mem_singleton.mp h)
  | cons a r ih =>
    unfold fv_ins at h
    split at h
    · exact List.mem_cons.mp h
    · rcases List.mem_cons.mp h with h | h
      · exact Or.inr (h ▸ List.mem_cons_self)
      · rcases ih h with h | h
        · exact Or.inl h
        · exact Or.inr (List.mem_cons_of_mem _ h)
theorem fv_has {ls : Array Slot} {n : Nat} {l l' : List (Nat × Value)} (h : lv_has ls n l) (hs : ∀ q ∈ l', q ∈ l) : lv_has ls n l' := ⟨h.1, h.2.1, fun q hq => h.2.2 q (hs q hq)⟩
theorem fv_h1 {ls : Array Slot} {n N i : Nat} {lv : fv_L} {v : Value} (h : lv_has ls n ((i, fv_v N v) :: (lv.map (fv_cN N)).filter (fun q => !(q.1 == i) && !(q.1 + 1 == i && q.2.category == 2)))) : lv_has ls n ((fv_p1 lv i v).map (fv_cN N)) := by
  refine fv_has h fun q hq => ?_
  obtain ⟨q0, h0, rfl⟩ := List.mem_map.mp hq
  rcases fv_ins_mem h0 with rfl | h0
  · exact List.mem_cons_self
  · obtain ⟨h1, h2⟩ := List.mem_filter.mp h0
    refine List.mem_cons_of_mem _ (List.mem_filter.mpr ⟨List.mem_map.mpr ⟨q0, h1, rfl⟩, ?_⟩)
    show (!(q0.1 == i) && !(q0.1 + 1 == i && (fv_v N q0.2).category == 2)) = true
    rw [fv_cat]; exact h2
theorem fv_h2 {ls : Array Slot} {n N i : Nat} {lv : fv_L} {v : Value} (h : lv_has ls n ((i, fv_v N v) :: (lv.map (fv_cN N)).filter (fun q => !(q.1 == i) && (!(q.1 == i + 1) && !(q.1 + 1 == i && q.2.category == 2))))) : lv_has ls n ((fv_p2 lv i v).map (fv_cN N)) := by
  refine fv_has h fun q hq => ?_
  obtain ⟨q0, h0, rfl⟩ := List.mem_map.mp hq
  rcases fv_ins_mem h0 with rfl | h0
  · exact List.mem_cons_self
  · obtain ⟨h1, h2⟩ := List.mem_filter.mp h0
    refine List.mem_cons_of_mem _ (List.mem_filter.mpr ⟨List.mem_map.mpr ⟨q0, h1, rfl⟩, ?_⟩)
    show (!(q0.1 == i) && (!(q0.1 == i + 1) && !(q0.1 + 1 == i && (fv_v N q0.2).category == 2))) = true
    rw [fv_cat]; exact h2
section FVR
variable {y : fv_Y} {d mc ms : Nat} {Q : Option Value → fv_F → Option Nat → Prop} {pc : Nat} {lv : fv_L} {st : List Value} {f : fv_F} {al : Option Nat} {k t : Nat}
/-- fewer locals -/
theorem fx_sub {lv' : fv_L} (hs : ∀ q ∈ lv', q ∈ lv) (kk : fv_At y d mc ms Q pc lv' st f al k t) : fv_At y d mc ms Q pc lv st f al k t := by
  intro p l e s m args below meth c D dA N A G H locs ls hR hS hO hl
  exact kk p l e s m args below meth c D dA N A G H locs ls hR hS hO (fv_has hl fun q hq => by
    obtain ⟨q0, h0, rfl⟩ := List.mem_map.mp hq
    exact List.mem_map.mpr ⟨q0, hs q0 h0, rfl⟩)
theorem fx_iconst {n : Int} {v : Int32} (hd : decode y.2.1 pc = .ok (.iconst n, 1)) (hv : Int32.ofInt n = v) (kk : fv_At y d mc ms Q (pc + 1) lv (.int v :: st) f al k t) : fv_At y d mc ms Q pc lv (st) f al k t := by
  intro p l e s m args below meth c D dA N A G H locs ls hR hS hO hl
  obtain ⟨hx, hb, hr, hlk, hml, hown, hts, ⟨hK, hNq⟩, hnm⟩ := id G
  exact lv_iconst hx hb hd hv (kk p l e s m args below meth c D dA N A G H locs ls hR hS hO hl)
theorem fx_bipush {n : Int} {v : Int32} (hd : decode y.2.1 pc = .ok (.bipush n, 2)) (hv : (Int8.ofInt n).toInt32 = v) (kk : fv_At y d mc ms Q (pc + 2) lv (.int v :: st) f al k t) : fv_At y d mc ms Q pc lv (st) f al k t := by
  intro p l e s m args below meth c D dA N A G H locs ls hR hS hO hl
  obtain ⟨hx, hb, hr, hlk, hml, hown, hts, ⟨hK, hNq⟩, hnm⟩ := id G
  exact lv_bipush hx hb hd hv (kk p l e s m args below meth c D dA N A G H locs ls hR hS hO hl)
theorem fx_sipush {n : Int} {v : Int32} (hd : decode y.2.1 pc = .ok (.sipush n, 3)) (hv : (Int16.ofInt n).toInt32 = v) (kk : fv_At y d mc ms Q (pc + 3) lv (.int v :: st) f al k t) : fv_At y d mc ms Q pc lv (st) f al k t := by
  intro p l e s m args below meth c D dA N A G H locs ls hR hS hO hl
  obtain ⟨hx, hb, hr, hlk, hml, hown, hts, ⟨hK, hNq⟩, hnm⟩ := id G
  exact lv_sipush hx hb hd hv (kk p l e s m args below meth c D dA N A G H locs ls hR hS hO hl)
theorem fx_lconst {n : Fin 2} {v : Int64} (hd : decode y.2.1 pc = .ok (.lconst n, 1)) (hv : Int64.ofNat (n : Nat) = v) (kk : fv_At y d mc ms Q (pc + 1) lv (.long v :: st) f al k t) : fv_At y d mc ms Q pc lv (st) f al k t := by
  intro p l e s m args below meth c D dA N A G H locs ls hR hS hO hl
  obtain ⟨hx, hb, hr, hlk, hml, hown, hts, ⟨hK, hNq⟩, hnm⟩ := id G
  exact lv_lconst hx hb hd hv (kk p l e s m args below meth c D dA N A G H locs ls hR hS hO hl)
theorem fx_ldc {i : Nat} {v : Int32} (hd : decode y.2.1 pc = .ok (.ldc i, 2)) (hw : Jvm.Cond.constant y.1.cls i v ∈ fv_tbl) (kk : fv_At y d mc ms Q (pc + 2) lv (.int v :: st) f al k t) : fv_At y d mc ms Q pc lv (st) f al k t := by
  intro p l e s m args below meth c D dA N A G H locs ls hR hS hO hl
  obtain ⟨hx, hb, hr, hlk, hml, hown, hts, ⟨hK, hNq⟩, hnm⟩ := id G
  exact lv_ldc hx hb hown (hts _ hw) hd (kk p l e s m args below meth c D dA N A G H locs ls hR hS hO hl)
theorem fx_ldc2 {i : Nat} {v : Int64} (hd : decode y.2.1 pc = .ok (.ldc2_w i, 3)) (hw : Jvm.Cond.constantLong y.1.cls i v ∈ fv_tbl) (kk : fv_At y d mc ms Q (pc + 3) lv (.long v :: st) f al k t) : fv_At y d mc ms Q pc lv (st) f al k t := by
  intro p l e s m args below meth c D dA N A G H locs ls hR hS hO hl
  obtain ⟨hx, hb, hr, hlk, hml, hown, hts, ⟨hK, hNq⟩, hnm⟩ := id G
  exact lv_ldc2 hx hb hown (hts _ hw) hd (kk p l e s m args below meth c D dA N A G H locs ls hR hS hO hl)
theorem fx_iload_n {n : Fin 4} {i : Nat} {x : Int32} (hd : decode y.2.1 pc = .ok (.iload_n n, 1)) (hi : (n : Nat) = i) (hg : fv_g lv i = some (.int x)) (kk : fv_At y d mc ms Q (pc + 1) lv (.int x :: st) f al k t) : fv_At y d mc ms Q pc lv (st) f al k t := by
  intro p l e s m args below meth c D dA N A G H locs ls hR hS hO hl
  obtain ⟨hx, hb, hr, hlk, hml, hown, hts, ⟨hK, hNq⟩, hnm⟩ := id G
  exact lv_iload_n hx hb hd hi (fv_lk hl hg) (kk p l e s m args below meth c D dA N A G H locs ls hR hS hO hl)
theorem fx_iload {i : Nat} {x : Int32} (hd : decode y.2.1 pc = .ok (.iload i, 2)) (hg : fv_g lv i = some (.int x)) (kk : fv_At y d mc ms Q (pc + 2) lv (.int x :: st) f al k t) : fv_At y d mc ms Q pc lv (st) f al k t := by
  intro p l e s m args below meth c D dA N A G H locs ls hR hS hO hl
  obtain ⟨hx, hb, hr, hlk, hml, hown, hts, ⟨hK, hNq⟩, hnm⟩ := id G
  exact lv_iload hx hb hd (fv_lk hl hg) (kk p l e s m args below meth c D dA N A G H locs ls hR hS hO hl)
theorem fx_lload_n {n : Fin 4} {i : Nat} {x : Int64} (hd : decode y.2.1 pc = .ok (.lload_n n, 1)) (hi : (n : Nat) = i) (hg : fv_g lv i = some (.long x)) (kk : fv_At y d mc ms Q (pc + 1) lv (.long x :: st) f al k t) : fv_At y d mc ms Q pc lv (st) f al k t := by
  intro p l e s m args below meth c D dA N A G H locs ls hR hS hO hl
  obtain ⟨hx, hb, hr, hlk, hml, hown, hts, ⟨hK, hNq⟩, hnm⟩ := id G
  exact lv_lload_n hx hb hd hi (fv_lk hl hg) (kk p l e s m args below meth c D dA N A G H locs ls hR hS hO hl)
theorem fx_lload {i : Nat} {x : Int64} (hd : decode y.2.1 pc = .ok (.lload i, 2)) (hg : fv_g lv i = some (.long x)) (kk : fv_At y d mc ms Q (pc + 2) lv (.long x :: st) f al k t) : fv_At y d mc ms Q pc lv (st) f al k t := by
  intro p l e s m args below meth c D dA N A G H locs ls hR hS hO hl
  obtain ⟨hx, hb, hr, hlk, hml, hown, hts, ⟨hK, hNq⟩, hnm⟩ := id G
  exact lv_lload hx hb hd (fv_lk hl hg) (kk p l e s m args below meth c D dA N A G H locs ls hR hS hO hl)
theorem fx_aload_n {n : Fin 4} {i a : Nat} (hd : decode y.2.1 pc = .ok (.aload_n n, 1)) (hi : (n : Nat) = i) (hg : fv_g lv i = some (.ref a)) (kk : fv_At y d mc ms Q (pc + 1) lv (.ref a :: st) f al k t) : fv_At y d mc ms Q pc lv (st) f al k t := by
  intro p l e s m args below meth c D dA N A G H locs ls hR hS hO hl
  obtain ⟨hx, hb, hr, hlk, hml, hown, hts, ⟨hK, hNq⟩, hnm⟩ := id G
  exact lv_aload_n hx hb hd hi (fv_lk hl hg) (kk p l e s m args below meth c D dA N A G H locs ls hR hS hO hl)
theorem fx_aload {i a : Nat} (hd : decode y.2.1 pc = .ok (.aload i, 2)) (hg : fv_g lv i = some (.ref a)) (kk : fv_At y d mc ms Q (pc + 2) lv (.ref a :: st) f al k t) : fv_At y d mc ms Q pc lv (st) f al k t := by
  intro p l e s m args below meth c D dA N A G H locs ls hR hS hO hl
  obtain ⟨hx, hb, hr, hlk, hml, hown, hts, ⟨hK, hNq⟩, hnm⟩ := id G
  exact lv_aload hx hb hd (fv_lk hl hg) (kk p l e s m args below meth c D dA N A G H locs ls hR hS hO hl)
theorem fx_istore_n {n : Fin 4} {i : Nat} {x : Int32} {lv2 : fv_L} (hd : decode y.2.1 pc = .ok (.istore_n n, 1)) (hi : (n : Nat) = i) (hn : i < y.2.2.1) (hp : fv_p1 lv i (.int x) = lv2) (kk : fv_At y d mc ms Q (pc + 1) lv2 (st) f al k t) : fv_At y d mc ms Q pc lv (.int x :: st) f al k t := by
  intro p l e s m args below meth c D dA N A G H locs ls hR hS hO hl
  obtain ⟨hx, hb, hr, hlk, hml, hown, hts, ⟨hK, hNq⟩, hnm⟩ := id G
  exact lv_istore_n hx hb hd hi hl hn rfl (fun ls2 hl2 => kk p l e s m args below meth c D dA N A G H locs ls2 hR hS hO (by rw [← hp]; exact fv_h1 hl2))
theorem fx_istore {i : Nat} {x : Int32} {lv2 : fv_L} (hd : decode y.2.1 pc = .ok (.istore i, 2)) (hn : i < y.2.2.1) (hp : fv_p1 lv i (.int x) = lv2) (kk : fv_At y d mc ms Q (pc + 2) lv2 (st) f al k t) : fv_At y d mc ms Q pc lv (.int x :: st) f al k t := by
  intro p l e s m args below meth c D dA N A G H locs ls hR hS hO hl
  obtain ⟨hx, hb, hr, hlk, hml, hown, hts, ⟨hK, hNq⟩, hnm⟩ := id G
  exact lv_istore hx hb hd hl hn rfl (fun ls2 hl2 => kk p l e s m args below meth c D dA N A G H locs ls2 hR hS hO (by rw [← hp]; exact fv_h1 hl2))
theorem fx_lstore_n {n : Fin 4} {i : Nat} {x : Int64} {lv2 : fv_L} (hd : decode y.2.1 pc = .ok (.lstore_n n, 1)) (hi : (n : Nat) = i) (hn : i + 1 < y.2.2.1) (hp : fv_p2 lv i (.long x) = lv2) (kk : fv_At y d mc ms Q (pc + 1) lv2 (st) f al k t) : fv_At y d mc ms Q pc lv (.long x :: st) f al k t := by
  intro p l e s m args below meth c D dA N A G H locs ls hR hS hO hl
  obtain ⟨hx, hb, hr, hlk, hml, hown, hts, ⟨hK, hNq⟩, hnm⟩ := id G
  exact lv_lstore_n hx hb hd hi hl hn rfl (fun ls2 hl2 => kk p l e s m args below meth c D dA N A G H locs ls2 hR hS hO (by rw [← hp]; exact fv_h2 hl2))
theorem fx_lstore {i : Nat} {x : Int64} {lv2 : fv_L} (hd : decode y.2.1 pc = .ok (.lstore i, 2)) (hn : i + 1 < y.2.2.1) (hp : fv_p2 lv i (.long x) = lv2) (kk : fv_At y d mc ms Q (pc + 2) lv2 (st) f al k t) : fv_At y d mc ms Q pc lv (.long x :: st) f al k t := by
  intro p l e s m args below meth c D dA N A G H locs ls hR hS hO hl
  obtain ⟨hx, hb, hr, hlk, hml, hown, hts, ⟨hK, hNq⟩, hnm⟩ := id G
  exact lv_lstore hx hb hd hl hn rfl (fun ls2 hl2 => kk p l e s m args below meth c D dA N A G H locs ls2 hR hS hO (by rw [← hp]; exact fv_h2 hl2))
theorem fx_astore_n {n : Fin 4} {i a : Nat} {lv2 : fv_L} (hd : decode y.2.1 pc = .ok (.astore_n n, 1)) (hi : (n : Nat) = i) (hn : i < y.2.2.1) (hp : fv_p1 lv i (.ref a) = lv2) (kk : fv_At y d mc ms Q (pc + 1) lv2 (st) f al k t) : fv_At y d mc ms Q pc lv (.ref a :: st) f al k t := by
  intro p l e s m args below meth c D dA N A G H locs ls hR hS hO hl
  obtain ⟨hx, hb, hr, hlk, hml, hown, hts, ⟨hK, hNq⟩, hnm⟩ := id G
  exact lv_astore_n hx hb hd hi hl hn rfl (fun ls2 hl2 => kk p l e s m args below meth c D dA N A G H locs ls2 hR hS hO (by rw [← hp]; exact fv_h1 hl2))
theorem fx_astore {i a : Nat} {lv2 : fv_L} (hd : decode y.2.1 pc = .ok (.astore i, 2)) (hn : i < y.2.2.1) (hp : fv_p1 lv i (.ref a) = lv2) (kk : fv_At y d mc ms Q (pc + 2) lv2 (st) f al k t) : fv_At y d mc ms Q pc lv (.ref a :: st) f al k t := by
  intro p l e s m args below meth c D dA N A G H locs ls hR hS hO hl
  obtain ⟨hx, hb, hr, hlk, hml, hown, hts, ⟨hK, hNq⟩, hnm⟩ := id G
  exact lv_astore hx hb hd hl hn rfl (fun ls2 hl2 => kk p l e s m args below meth c D dA N A G H locs ls2 hR hS hO (by rw [← hp]; exact fv_h1 hl2))
theorem fx_iinc {i : Nat} {n : Int} {x v : Int32} {lv2 : fv_L} (hd : decode y.2.1 pc = .ok (.iinc i n, 3)) (hg : fv_g lv i = some (.int x)) (hv : x + Int32.ofInt n = v) (hn : i < y.2.2.1) (hp : fv_p1 lv i (.int v) = lv2) (kk : fv_At y d mc ms Q (pc + 3) lv2 (st) f al k t) : fv_At y d mc ms Q pc lv (st) f al k t := by
  intro p l e s m args below meth c D dA N A G H locs ls hR hS hO hl
  obtain ⟨hx, hb, hr, hlk, hml, hown, hts, ⟨hK, hNq⟩, hnm⟩ := id G
  obtain ⟨j, hj⟩ := fv_lx hl hg
  exact lv_iinc hx hb hd hl hj hv hn rfl (fun ls2 hl2 => kk p l e s m args below meth c D dA N A G H locs ls2 hR hS hO (by rw [← hp]; exact fv_h1 hl2))
theorem fx_iadd {x z : Int32} (hd : decode y.2.1 pc = .ok (.iadd, 1)) (kk : fv_At y d mc ms Q (pc + 1) lv (.int (x + z) :: st) f al k t) : fv_At y d mc ms Q pc lv (.int z :: .int x :: st) f al k t := by
  intro p l e s m args below meth c D dA N A G H locs ls hR hS hO hl
  obtain ⟨hx, hb, hr, hlk, hml, hown, hts, ⟨hK, hNq⟩, hnm⟩ := id G
  exact lv_iadd hx hb hd (kk p l e s m args below meth c D dA N A G H locs ls hR hS hO hl)
theorem fx_isub {x z : Int32} (hd : decode y.2.1 pc = .ok (.isub, 1)) (kk : fv_At y d mc ms Q (pc + 1) lv (.int (x - z) :: st) f al k t) : fv_At y d mc ms Q pc lv (.int z :: .int x :: st) f al k t := by
  intro p l e s m args below meth c D dA N A G H locs ls hR hS hO hl
  obtain ⟨hx, hb, hr, hlk, hml, hown, hts, ⟨hK, hNq⟩, hnm⟩ := id G
  exact lv_isub hx hb hd (kk p l e s m args below meth c D dA N A G H locs ls hR hS hO hl)
theorem fx_imul {x z : Int32} (hd : decode y.2.1 pc = .ok (.imul, 1)) (kk : fv_At y d mc ms Q (pc + 1) lv (.int (x * z) :: st) f al k t) : fv_At y d mc ms Q pc lv (.int z :: .int x :: st) f al k t := by
  intro p l e s m args below meth c D dA N A G H locs ls hR hS hO hl
  obtain ⟨hx, hb, hr, hlk, hml, hown, hts, ⟨hK, hNq⟩, hnm⟩ := id G
  exact lv_imul hx hb hd (kk p l e s m args below meth c D dA N A G H locs ls hR hS hO hl)
theorem fx_iand {x z : Int32} (hd : decode y.2.1 pc = .ok (.iand, 1)) (kk : fv_At y d mc ms Q (pc + 1) lv (.int (x &&& z) :: st) f al k t) : fv_At y d mc ms Q pc lv (.int z :: .int x :: st) f al k t := by
  intro p l e s m args below meth c D dA N A G H locs ls hR hS hO hl
  obtain ⟨hx, hb, hr, hlk, hml, hown, hts, ⟨hK, hNq⟩, hnm⟩ := id G
  exact lv_iand hx hb hd (kk p l e s m args below meth c D dA N A G H locs ls hR hS hO hl)
theorem fx_ior {x z : Int32} (hd : decode y.2.1 pc = .ok (.ior, 1)) (kk : fv_At y d mc ms Q (pc + 1) lv (.int (x ||| z) :: st) f al k t) : fv_At y d mc ms Q pc lv (.int z :: .int x :: st) f al k t := by
  intro p l e s m args below meth c D dA N A G H locs ls hR hS hO hl
  obtain ⟨hx, hb, hr, hlk, hml, hown, hts, ⟨hK, hNq⟩, hnm⟩ := id G
  exact lv_ior hx hb hd (kk p l e s m args below meth c D dA N A G H locs ls hR hS hO hl)
theorem fx_ixor {x z : Int32} (hd : decode y.2.1 pc = .ok (.ixor, 1)) (kk : fv_At y d mc ms Q (pc + 1) lv (.int (x ^^^ z) :: st) f al k t) : fv_At y d mc ms Q pc lv (.int z :: .int x :: st) f al k t := by
  intro p l e s m args below meth c D dA N A G H locs ls hR hS hO hl
  obtain ⟨hx, hb, hr, hlk, hml, hown, hts, ⟨hK, hNq⟩, hnm⟩ := id G
  exact lv_ixor hx hb hd (kk p l e s m args below meth c D dA N A G H locs ls hR hS hO hl)
theorem fx_idiv {x z : Int32} (hd : decode y.2.1 pc = .ok (.idiv, 1)) (h0 : ¬ z = 0) (kk : fv_At y d mc ms Q (pc + 1) lv (.int (x / z) :: st) f al k t) : fv_At y d mc ms Q pc lv (.int z :: .int x :: st) f al k t := by
  intro p l e s m args below meth c D dA N A G H locs ls hR hS hO hl
  obtain ⟨hx, hb, hr, hlk, hml, hown, hts, ⟨hK, hNq⟩, hnm⟩ := id G
  exact lv_idiv hx hb hd h0 (kk p l e s m args below meth c D dA N A G H locs ls hR hS hO hl)
theorem fx_irem {x z : Int32} (hd : decode y.2.1 pc = .ok (.irem, 1)) (h0 : ¬ z = 0) (kk : fv_At y d mc ms Q (pc + 1) lv (.int (x - x / z * z) :: st) f al k t) : fv_At y d mc ms Q pc lv (.int z :: .int x :: st) f al k t := by
  intro p l e s m args below meth c D dA N A G H locs ls hR hS hO hl
  obtain ⟨hx, hb, hr, hlk, hml, hown, hts, ⟨hK, hNq⟩, hnm⟩ := id G
  exact lv_irem hx hb hd h0 (kk p l e s m args below meth c D dA N A G H locs ls hR hS hO hl)
theorem fx_ineg {x : Int32} (hd : decode y.2.1 pc = .ok (.ineg, 1)) (kk : fv_At y d mc ms Q (pc + 1) lv (.int (-x) :: st) f al k t) : fv_At y d mc ms Q pc lv (.int x :: st) f al k t := by
  intro p l e s m args below meth c D dA N A G H locs ls hR hS hO hl
  obtain ⟨hx, hb, hr, hlk, hml, hown, hts, ⟨hK, hNq⟩, hnm⟩ := id G
  exact lv_ineg hx hb hd (kk p l e s m args below meth c D dA N A G H locs ls hR hS hO hl)
theorem fx_ishl {x z : Int32} (hd : decode y.2.1 pc = .ok (.ishl, 1)) (kk : fv_At y d mc ms Q (pc + 1) lv (.int (x <<< (z &&& 31)) :: st) f al k t) : fv_At y d mc ms Q pc lv (.int z :: .int x :: st) f al k t := by
  intro p l e s m args below meth c D dA N A G H locs ls hR hS hO hl
  obtain ⟨hx, hb, hr, hlk, hml, hown, hts, ⟨hK, hNq⟩, hnm⟩ := id G
  exact lv_ishl hx hb hd (kk p l e s m args below meth c D dA N A G H locs ls hR hS hO hl)
theorem fx_ishr {x z : Int32} (hd : decode y.2.1 pc = .ok (.ishr, 1)) (kk : fv_At y d mc ms Q (pc + 1) lv (.int (x >>> (z &&& 31)) :: st) f al k t) : fv_At y d mc ms Q pc lv (.int z :: .int x :: st) f al k t := by
  intro p l e s m args below meth c D dA N A G H locs ls hR hS hO hl
  obtain ⟨hx, hb, hr, hlk, hml, hown, hts, ⟨hK, hNq⟩, hnm⟩ := id G
  exact lv_ishr hx hb hd (kk p l e s m args below meth c D dA N A G H locs ls hR hS hO hl)
theorem fx_ladd {x z : Int64} (hd : decode y.2.1 pc = .ok (.ladd, 1)) (kk : fv_At y d mc ms Q (pc + 1) lv (.long (x + z) :: st) f al k t) : fv_At y d mc ms Q pc lv (.long z :: .long x :: st) f al k t := by
  intro p l e s m args below meth c D dA N A G H locs ls hR hS hO hl
  obtain ⟨hx, hb, hr, hlk, hml, hown, hts, ⟨hK, hNq⟩, hnm⟩ := id G
  exact lv_ladd hx hb hd (kk p l e s m args below meth c D dA N A G H locs ls hR hS hO hl)
theorem fx_lsub {x z : Int64} (hd : decode y.2.1 pc = .ok (.lsub, 1)) (kk : fv_At y d mc ms Q (pc + 1) lv (.long (x - z) :: st) f al k t) : fv_At y d mc ms Q pc lv (.long z :: .long x :: st) f al k t := by
  intro p l e s m args below meth c D dA N A G H locs ls hR hS hO hl
  obtain ⟨hx, hb, hr, hlk, hml, hown, hts, ⟨hK, hNq⟩, hnm⟩ := id G
  exact lv_lsub hx hb hd (kk p l e s m args below meth c D dA N A G H locs ls hR hS hO hl)
theorem fx_lmul {x z : Int64} (hd : decode y.2.1 pc = .ok (.lmul, 1)) (kk : fv_At y d mc ms Q (pc + 1) lv (.long (x * z) :: st) f al k t) : fv_At y d mc ms Q pc lv (.long z :: .long x :: st) f al k t := by
  intro p l e s m args below meth c D dA N A G H locs ls hR hS hO hl
  obtain ⟨hx, hb, hr, hlk, hml, hown, hts, ⟨hK, hNq⟩, hnm⟩ := id G
  exact lv_lmul hx hb hd (kk p l e s m args below meth c D dA N A G H locs ls hR hS hO hl)
theorem fx_land {x z : Int64} (hd : decode y.2.1 pc = .ok (.land, 1)) (kk : fv_At y d mc ms Q (pc + 1) lv (.long (x &&& z) :: st) f al k t) : fv_At y d mc ms Q pc lv (.long z :: .long x :: st) f al k t := by
  intro p l e s m args below meth c D dA N A G H locs ls hR hS hO hl
  obtain ⟨hx, hb, hr, hlk, hml, hown, hts, ⟨hK, hNq⟩, hnm⟩ := id G
  exact lv_land hx hb hd (kk p l e s m args below meth c D dA N A G H locs ls hR hS hO hl)
theorem fx_lor {x z : Int64} (hd : decode y.2.1 pc = .ok (.lor, 1)) (kk : fv_At y d mc ms Q (pc + 1) lv (.long (x ||| z) :: st) f al k t) : fv_At y d mc ms Q pc lv (.long z :: .long x :: st) f al k t := by
  intro p l e s m args below meth c D dA N A G H locs ls hR hS hO hl
  obtain ⟨hx, hb, hr, hlk, hml, hown, hts, ⟨hK, hNq⟩, hnm⟩ := id G
  exact lv_lor hx hb hd (kk p l e s m args below meth c D dA N A G H locs ls hR hS hO hl)
theorem fx_ldiv {x z : Int64} (hd : decode y.2.1 pc = .ok (.ldiv, 1)) (h0 : ¬ z = 0) (kk : fv_At y d mc ms Q (pc + 1) lv (.long (x / z) :: st) f al k t) : fv_At y d mc ms Q pc lv (.long z :: .long x :: st) f al k t := by
  intro p l e s m args below meth c D dA N A G H locs ls hR hS hO hl
  obtain ⟨hx, hb, hr, hlk, hml, hown, hts, ⟨hK, hNq⟩, hnm⟩ := id G
  exact lv_ldiv hx hb hd h0 (kk p l e s m args below meth c D dA N A G H locs ls hR hS hO hl)
theorem fx_lrem {x z : Int64} (hd : decode y.2.1 pc = .ok (.lrem, 1)) (h0 : ¬ z = 0) (kk : fv_At y d mc ms Q (pc + 1) lv (.long (x - x / z * z) :: st) f al k t) : fv_At y d mc ms Q pc lv (.long z :: .long x :: st) f al k t := by
  intro p l e s m args below meth c D dA N A G H locs ls hR hS hO hl
  obtain ⟨hx, hb, hr, hlk, hml, hown, hts, ⟨hK, hNq⟩, hnm⟩ := id G
  exact lv_lrem hx hb hd h0 (kk p l e s m args below meth c D dA N A G H locs ls hR hS hO hl)
theorem fx_lneg {x : Int64} (hd : decode y.2.1 pc = .ok (.lneg, 1)) (kk : fv_At y d mc ms Q (pc + 1) lv (.long (-x) :: st) f al k t) : fv_At y d mc ms Q pc lv (.long x :: st) f al k t := by
  intro p l e s m args below meth c D dA N A G H locs ls hR hS hO hl
  obtain ⟨hx, hb, hr, hlk, hml, hown, hts, ⟨hK, hNq⟩, hnm⟩ := id G
  exact lv_lneg hx hb hd (kk p l e s m args below meth c D dA N A G H locs ls hR hS hO hl)
theorem fx_lshl {x v : Int64} {z : Int32} (hd : decode y.2.1 pc = .ok (.lshl, 1)) (hv : x <<< (z.toInt64 &&& 63) = v) (kk : fv_At y d mc ms Q (pc + 1) lv (.long v :: st) f al k t) : fv_At y d mc ms Q pc lv (.int z :: .long x :: st) f al k t := by
  intro p l e s m args below meth c D dA N A G H locs ls hR hS hO hl
  obtain ⟨hx, hb, hr, hlk, hml, hown, hts, ⟨hK, hNq⟩, hnm⟩ := id G
  exact lv_lshl hx hb hd hv (kk p l e s m args below meth c D dA N A G H locs ls hR hS hO hl)
theorem fx_lcmp {x z : Int64} (hd : decode y.2.1 pc = .ok (.lcmp, 1)) (kk : fv_At y d mc ms Q (pc + 1) lv (.int (lg_cmp x z) :: st) f al k t) : fv_At y d mc ms Q pc lv (.long z :: .long x :: st) f al k t := by
  intro p l e s m args below meth c D dA N A G H locs ls hR hS hO hl
  obtain ⟨hx, hb, hr, hlk, hml, hown, hts, ⟨hK, hNq⟩, hnm⟩ := id G
  exact W.lcmp hx hb hd (kk p l e s m args below meth c D dA N A G H locs ls hR hS hO hl)
theorem fx_i2l {x : Int32} (hd : decode y.2.1 pc = .ok (.i2l, 1)) (kk : fv_At y d mc ms Q (pc + 1) lv (.long x.toInt64 :: st) f al k t) : fv_At y d mc ms Q pc lv (.int x :: st) f al k t := by
  intro p l e s m args below meth c D dA N A G H locs ls hR hS hO hl
  obtain ⟨hx, hb, hr, hlk, hml, hown, hts, ⟨hK, hNq⟩, hnm⟩ := id G
  exact lv_i2l hx hb hd rfl (kk p l e s m args below meth c D dA N A G H locs ls hR hS hO hl)
theorem fx_l2i {x : Int64} (hd : decode y.2.1 pc = .ok (.l2i, 1)) (kk : fv_At y d mc ms Q (pc + 1) lv (.int x.toInt32 :: st) f al k t) : fv_At y d mc ms Q pc lv (.long x :: st) f al k t := by
  intro p l e s m args below meth c D dA N A G H locs ls hR hS hO hl
  obtain ⟨hx, hb, hr, hlk, hml, hown, hts, ⟨hK, hNq⟩, hnm⟩ := id G
  exact lv_l2i hx hb hd rfl (kk p l e s m args below meth c D dA N A G H locs ls hR hS hO hl)
theorem fx_dup {v : Value} (hd : decode y.2.1 pc = .ok (.dup, 1)) (hc : v.category = 1) (kk : fv_At y d mc ms Q (pc + 1) lv (v :: v :: st) f al k t) : fv_At y d mc ms Q pc lv (v :: st) f al k t := by
  intro p l e s m args below meth c D dA N A G H locs ls hR hS hO hl
  obtain ⟨hx, hb, hr, hlk, hml, hown, hts, ⟨hK, hNq⟩, hnm⟩ := id G
  exact lv_dup hx hb hd (by rw [fv_cat]; exact hc) (kk p l e s m args below meth c D dA N A G H locs ls hR hS hO hl)
theorem fx_dup2 {v w : Value} (hd : decode y.2.1 pc = .ok (.dup2, 1)) (hc : v.category = 1) (hc2 : w.category = 1) (kk : fv_At y d mc ms Q (pc + 1) lv (v :: w :: v :: w :: st) f al k t) : fv_At y d mc ms Q pc lv (v :: w :: st) f al k t := by
  intro p l e s m args below meth c D dA N A G H locs ls hR hS hO hl
  obtain ⟨hx, hb, hr, hlk, hml, hown, hts, ⟨hK, hNq⟩, hnm⟩ := id G
  exact lv_dup2_11 hx hb hd (by rw [fv_cat]; exact hc) (by rw [fv_cat]; exact hc2) (kk p l e s m args below meth c D dA N A G H locs ls hR hS hO hl)
theorem fx_pop {v : Value} (hd : decode y.2.1 pc = .ok (.pop, 1)) (hc : v.category = 1) (kk : fv_At y d mc ms Q (pc + 1) lv (st) f al k t) : fv_At y d mc ms Q pc lv (v :: st) f al k t := by
  intro p l e s m args below meth c D dA N A G H locs ls hR hS hO hl
  obtain ⟨hx, hb, hr, hlk, hml, hown, hts, ⟨hK, hNq⟩, hnm⟩ := id G
  exact lv_pop hx hb hd (by rw [fv_cat]; exact hc) (kk p l e s m args below meth c D dA N A G H locs ls hR hS hO hl)
theorem fx_if_eq {x : Int32} {off : Int} {tgt : Nat} (hd : decode y.2.1 pc = .ok (.ifCond .eq off, 3)) (ht : (pc : Int) + off = (tgt : Int)) (kt : (x = 0) → fv_At y d mc ms Q tgt lv st f al k t) (kf : ¬ (x = 0) → fv_At y d mc ms Q (pc + 3) lv st f al k t) : fv_At y d mc ms Q pc lv (.int x :: st) f al k t := by
  intro p l e s m args below meth c D dA N A G H locs ls hR hS hO hl
  obtain ⟨hx, hb, hr, hlk, hml, hown, hts, ⟨hK, hNq⟩, hnm⟩ := id G
  exact lv_if_eq hx hb hd ht (fun h => kt h p l e s m args below meth c D dA N A G H locs ls hR hS hO hl) (fun h => kf h p l e s m args below meth c D dA N A G H locs ls hR hS hO hl)
theorem fx_icmp_eq {x z : Int32} {off : Int} {tgt : Nat} (hd : decode y.2.1 pc = .ok (.if_icmp .eq off, 3)) (ht : (pc : Int) + off = (tgt : Int)) (kt : (x = z) → fv_At y d mc ms Q tgt lv st f al k t) (kf : ¬ (x = z) → fv_At y d mc ms Q (pc + 3) lv st f al k t) : fv_At y d mc ms Q pc lv (.int z :: .int x :: st) f al k t := by
  intro p l e s m args below meth c D dA N A G H locs ls hR hS hO hl
  obtain ⟨hx, hb, hr, hlk, hml, hown, hts, ⟨hK, hNq⟩, hnm⟩ := id G
  exact lv_icmp_eq hx hb hd ht (fun h => kt h p l e s m args below meth c D dA N A G H locs ls hR hS hO hl) (fun h => kf h p l e s m args below meth c D dA N A G H locs ls hR hS hO hl)
theorem fx_if_ne {x : Int32} {off : Int} {tgt : Nat} (hd : decode y.2.1 pc = .ok (.ifCond .ne off, 3)) (ht : (pc : Int) + off = (tgt : Int)) (kt : (x ≠ 0) → fv_At y d mc ms Q tgt lv st f al k t) (kf : (x = 0) → fv_At y d mc ms Q (pc + 3) lv st f al k t) : fv_At y d mc ms Q pc lv (.int x :: st) f al k t := by
  intro p l e s m args below meth c D dA N A G H locs ls hR hS hO hl
  obtain ⟨hx, hb, hr, hlk, hml, hown, hts, ⟨hK, hNq⟩, hnm⟩ := id G
  exact lv_if_ne hx hb hd ht (fun h => kt h p l e s m args below meth c D dA N A G H locs ls hR hS hO hl) (fun h => kf h p l e s m args below meth c D dA N A G H locs ls hR hS hO hl)
theorem fx_icmp_ne {x z : Int32} {off : Int} {tgt : Nat} (hd : decode y.2.1 pc = .ok (.if_icmp .ne off, 3)) (ht : (pc : Int) + off = (tgt : Int)) (kt : (x ≠ z) → fv_At y d mc ms Q tgt lv st f al k t) (kf : (x = z) → fv_At y d mc ms Q (pc + 3) lv st f al k t) : fv_At y d mc ms Q pc lv (.int z :: .int x :: st) f al k t := by
  intro p l e s m args below meth c D dA N A G H locs ls hR hS hO hl
  obtain ⟨hx, hb, hr, hlk, hml, hown, hts, ⟨hK, hNq⟩, hnm⟩ := id G
  exact lv_icmp_ne hx hb hd ht (fun h => kt h p l e s m args below meth c D dA N A G H locs ls hR hS hO hl) (fun h => kf h p l e s m args below meth c D dA N A G H locs ls hR hS hO hl)
theorem fx_if_lt {x : Int32} {off : Int} {tgt : Nat} (hd : decode y.2.1 pc = .ok (.ifCond .lt off, 3)) (ht : (pc : Int) + off = (tgt : Int)) (kt : (x < 0) → fv_At y d mc ms Q tgt lv st f al k t) (kf : ¬ (x < 0) → fv_At y d mc ms Q (pc + 3) lv st f al k t) : fv_At y d mc ms Q pc lv (.int x :: st) f al k t := by
  intro p l e s m args below meth c D dA N A G H locs ls hR hS hO hl
  obtain ⟨hx, hb, hr, hlk, hml, hown, hts, ⟨hK, hNq⟩, hnm⟩ := id G
  exact lv_if_lt hx hb hd ht (fun h => kt h p l e s m args below meth c D dA N A G H locs ls hR hS hO hl) (fun h => kf h p l e s m args below meth c D dA N A G H locs ls hR hS hO hl)
theorem fx_icmp_lt {x z : Int32} {off : Int} {tgt : Nat} (hd : decode y.2.1 pc = .ok (.if_icmp .lt off, 3)) (ht : (pc : Int) + off = (tgt : Int)) (kt : (x < z) → fv_At y d mc ms Q tgt lv st f al k t) (kf : ¬ (x < z) → fv_At y d mc ms Q (pc + 3) lv st f al k t) : fv_At y d mc ms Q pc lv (.int z :: .int x :: st) f al k t := by
  intro p l e s m args below meth c D dA N A G H locs ls hR hS hO hl
  obtain ⟨hx, hb, hr, hlk, hml, hown, hts, ⟨hK, hNq⟩, hnm⟩ := id G
  exact lv_icmp_lt hx hb hd ht (fun h => kt h p l e s m args below meth c D dA N A G H locs ls hR hS hO hl) (fun h => kf h p l e s m args below meth c D dA N A G H locs ls hR hS hO hl)
theorem fx_if_ge {x : Int32} {off : Int} {tgt : Nat} (hd : decode y.2.1 pc = .ok (.ifCond .ge off, 3)) (ht : (pc : Int) + off = (tgt : Int)) (kt : (0 ≤ x) → fv_At y d mc ms Q tgt lv st f al k t) (kf : ¬ (0 ≤ x) → fv_At y d mc ms Q (pc + 3) lv st f al k t) : fv_At y d mc ms Q pc lv (.int x :: st) f al k t := by
  intro p l e s m args below meth c D dA N A G H locs ls hR hS hO hl
  obtain ⟨hx, hb, hr, hlk, hml, hown, hts, ⟨hK, hNq⟩, hnm⟩ := id G
  exact lv_if_ge hx hb hd ht (fun h => kt h p l e s m args below meth c D dA N A G H locs ls hR hS hO hl) (fun h => kf h p l e s m args below meth c D dA N A G H locs ls hR hS hO hl)
theorem fx_icmp_ge {x z : Int32} {off : Int} {tgt : Nat} (hd : decode y.2.1 pc = .ok (.if_icmp .ge off, 3)) (ht : (pc : Int) + off = (tgt : Int)) (kt : (z ≤ x) → fv_At y d mc ms Q tgt lv st f al k t) (kf : ¬ (z ≤ x) → fv_At y d mc ms Q (pc + 3) lv st f al k t) : fv_At y d mc ms Q pc lv (.int z :: .int x :: st) f al k t := by
  intro p l e s m args below meth c D dA N A G H locs ls hR hS hO hl
  obtain ⟨hx, hb, hr, hlk, hml, hown, hts, ⟨hK, hNq⟩, hnm⟩ := id G
  exact lv_icmp_ge hx hb hd ht (fun h => kt h p l e s m args below meth c D dA N A G H locs ls hR hS hO hl) (fun h => kf h p l e s m args below meth c D dA N A G H locs ls hR hS hO hl)
theorem fx_if_gt {x : Int32} {off : Int} {tgt : Nat} (hd : decode y.2.1 pc = .ok (.ifCond .gt off, 3)) (ht : (pc : Int) + off = (tgt : Int)) (kt : (0 < x) → fv_At y d mc ms Q tgt lv st f al k t) (kf : ¬ (0 < x) → fv_At y d mc ms Q (pc + 3) lv st f al k t) : fv_At y d mc ms Q pc lv (.int x :: st) f al k t := by
  intro p l e s m args below meth c D dA N A G H locs ls hR hS hO hl
  obtain ⟨hx, hb, hr, hlk, hml, hown, hts, ⟨hK, hNq⟩, hnm⟩ := id G
  exact lv_if_gt hx hb hd ht (fun h => kt h p l e s m args below meth c D dA N A G H locs ls hR hS hO hl) (fun h => kf h p l e s m args below meth c D dA N A G H locs ls hR hS hO hl)
theorem fx_icmp_gt {x z : Int32} {off : Int} {tgt : Nat} (hd : decode y.2.1 pc = .ok (.if_icmp .gt off, 3)) (ht : (pc : Int) + off = (tgt : Int)) (kt : (z < x) → fv_At y d mc ms Q tgt lv st f al k t) (kf : ¬ (z < x) → fv_At y d mc ms Q (pc + 3) lv st f al k t) : fv_At y d mc ms Q pc lv (.int z :: .int x :: st) f al k t := by
  intro p l e s m args below meth c D dA N A G H locs ls hR hS hO hl
  obtain ⟨hx, hb, hr, hlk, hml, hown, hts, ⟨hK, hNq⟩, hnm⟩ := id G
  exact lv_icmp_gt hx hb hd ht (fun h => kt h p l e s m args below meth c D dA N A G H locs ls hR hS hO hl) (fun h => kf h p l e s m args below meth c D dA N A G H locs ls hR hS hO hl)
theorem fx_if_le {x : Int32} {off : Int} {tgt : Nat} (hd : decode y.2.1 pc = .ok (.ifCond .le off, 3)) (ht : (pc : Int) + off = (tgt : Int)) (kt : (x ≤ 0) → fv_At y d mc ms Q tgt lv st f al k t) (kf : ¬ (x ≤ 0) → fv_At y d mc ms Q (pc + 3) lv st f al k t) : fv_At y d mc ms Q pc lv (.int x :: st) f al k t := by
  intro p l e s m args below meth c D dA N A G H locs ls hR hS hO hl
  obtain ⟨hx, hb, hr, hlk, hml, hown, hts, ⟨hK, hNq⟩, hnm⟩ := id G
  exact lv_if_le hx hb hd ht (fun h => kt h p l e s m args below meth c D dA N A G H locs ls hR hS hO hl) (fun h => kf h p l e s m args below meth c D dA N A G H locs ls hR hS hO hl)
theorem fx_icmp_le {x z : Int32} {off : Int} {tgt : Nat} (hd : decode y.2.1 pc = .ok (.if_icmp .le off, 3)) (ht : (pc : Int) + off = (tgt : Int)) (kt : (x ≤ z) → fv_At y d mc ms Q tgt lv st f al k t) (kf : ¬ (x ≤ z) → fv_At y d mc ms Q (pc + 3) lv st f al k t) : fv_At y d mc ms Q pc lv (.int z :: .int x :: st) f al k t := by
  intro p l e s m args below meth c D dA N A G H locs ls hR hS hO hl
  obtain ⟨hx, hb, hr, hlk, hml, hown, hts, ⟨hK, hNq⟩, hnm⟩ := id G
  exact lv_icmp_le hx hb hd ht (fun h => kt h p l e s m args below meth c D dA N A G H locs ls hR hS hO hl) (fun h => kf h p l e s m args below meth c D dA N A G H locs ls hR hS hO hl)
theorem fx_goto {off : Int} {tgt : Nat} (hd : decode y.2.1 pc = .ok (.goto off, 3)) (ht : (pc : Int) + off = (tgt : Int)) (kk : fv_At y d mc ms Q tgt lv st f al k t) : fv_At y d mc ms Q pc lv st f al k t := by
  intro p l e s m args below meth c D dA N A G H locs ls hR hS hO hl
  obtain ⟨hx, hb, hr, hlk, hml, hown, hts, ⟨hK, hNq⟩, hnm⟩ := id G
  exact lv_goto hx hb hd ht (kk p l e s m args below meth c D dA N A G H locs ls hR hS hO hl)
theorem fx_tableIn {dflt lo hi : Int} {offs : Array Int} {len : Nat} {x : Int32} {off : Int} {tgt : Nat} (hd : decode y.2.1 pc = .ok (.tableswitch dflt lo hi offs, len)) (h1 : ¬ x.toInt < lo) (h2 : ¬ hi < x.toInt) (ho : offs[(x.toInt - lo).toNat]? = some off) (ht : (pc : Int) + off = (tgt : Int)) (kk : fv_At y d mc ms Q tgt lv st f al k t) : fv_At y d mc ms Q pc lv (.int x :: st) f al k t := by
  intro p l e s m args below meth c D dA N A G H locs ls hR hS hO hl
  obtain ⟨hx, hb, hr, hlk, hml, hown, hts, ⟨hK, hNq⟩, hnm⟩ := id G
  exact lv_tableIn hx hb hd h1 h2 ho ht (kk p l e s m args below meth c D dA N A G H locs ls hR hS hO hl)
theorem fx_tableOut {dflt lo hi : Int} {offs : Array Int} {len : Nat} {x : Int32} {tgt : Nat} (hd : decode y.2.1 pc = .ok (.tableswitch dflt lo hi offs, len)) (h : x.toInt < lo ∨ hi < x.toInt) (ht : (pc : Int) + dflt = (tgt : Int)) (kk : fv_At y d mc ms Q tgt lv st f al k t) : fv_At y d mc ms Q pc lv (.int x :: st) f al k t := by
  intro p l e s m args below meth c D dA N A G H locs ls hR hS hO hl
  obtain ⟨hx, hb, hr, hlk, hml, hown, hts, ⟨hK, hNq⟩, hnm⟩ := id G
  exact lv_tableOut hx hb hd h ht (kk p l e s m args below meth c D dA N A G H locs ls hR hS hO hl)
end FVR
