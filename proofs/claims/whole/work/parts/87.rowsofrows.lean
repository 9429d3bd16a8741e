/-! ===== a row of rows made at once: five rows of five ints ===== -/
def mn_o (c : ClassId) (h j : Nat) : Cell := arrV c 5 (fun q => if q < j then .ref (h + 1 + q) else .null)
def mn_i (c1 : ClassId) : Cell := arrV c1 5 (fun _ => .int 0)
/-- the state when j of the five are made -/
def mn_S (c c1 : ClassId) (h : Nat) : Nat → State → State
  | 0, s => s.pushCell (mn_o c h 0)
  | j + 1, s => ((mn_S c c1 h j s).pushCell (mn_i c1)).setCell h ((mn_o c h j).setSlot j (.ref (h + 1 + j)))
theorem mn_st (c : ClassId) (h j : Nat) : (mn_o c h j).setSlot j (.ref (h + 1 + j)) = mn_o c h (j + 1) := by
  unfold mn_o
  rw [arrV_store]
  congr 1
  funext q
  unfold updV
  by_cases e : q = j
  · subst e
    rw [if_pos rfl, if_pos (Nat.lt_succ_self _)]
  · rw [if_neg e]
    show (if q < j then Value.ref (h + 1 + q) else Value.null) = _
    by_cases e2 : q < j
    · rw [if_pos e2, if_pos (by omega)]
    · rw [if_neg e2, if_neg (by omega)]
theorem mn_o0 (c : ClassId) (h : Nat) : arrV c 5 (fun _ => Value.null) = mn_o c h 0 := by
  unfold mn_o
  congr 1

theorem mn_S_s (c c1 : ClassId) (h j : Nat) (s : State) : mn_S c c1 h (j + 1) s = ((mn_S c c1 h j s).pushCell (mn_i c1)).setCell h ((mn_o c h j).setSlot j (.ref (h + 1 + j))) := rfl
theorem mn_S_top (c c1 : ClassId) (h : Nat) (s : State) (g : JFrame) : ∀ j, mn_S c c1 h j (s.setTop g) = (mn_S c c1 h j s).setTop g
  | 0 => rfl
  | j + 1 => by
    rw [mn_S_s, mn_S_s, mn_S_top c c1 h s g j]
    rfl
theorem mn_S_f (c c1 : ClassId) {h : Nat} (s : State) (hh : s.heap.size = h) : ∀ j, (mn_S c c1 h j s).heap.size = h + 1 + j ∧ (mn_S c c1 h j s).heap[h]? = some (mn_o c h j) ∧ (∀ i, i < j → (mn_S c c1 h j s).heap[h + 1 + i]? = some (mn_i c1)) ∧ (∀ q, q < h → (mn_S c c1 h j s).heap[q]? = s.heap[q]?) ∧ (mn_S c c1 h j s).vm = s.vm ∧ (mn_S c c1 h j s).slotsUsed = s.slotsUsed + 5 + 5 * j ∧ (mn_S c c1 h j s).topJava? = s.topJava?
  | 0 => by
    refine ⟨?_, ?_, fun i hi => absurd hi (Nat.not_lt_zero _), fun q hq => ?_, rfl, ?_, rfl⟩
    · show (s.heap.push _).size = _
      rw [Array.size_push, hh]
    · show (s.heap.push _)[h]? = _
      rw [← hh, Array.getElem?_push_size]
    · show (s.heap.push _)[q]? = _
      rw [Array.getElem?_push, if_neg (by omega)]
    · show s.slotsUsed + (mn_o c h 0).slots.size = _
      unfold mn_o
      rw [arrV_size]
  | j + 1 => by
    obtain ⟨h1, h2, h3, h4, h5, h6, h7⟩ := mn_S_f c c1 s hh j
    rw [mn_S_s, mn_st]
    generalize mn_S c c1 h j s = U at h1 h2 h3 h4 h5 h6 h7 ⊢
    have z : ((U.pushCell (mn_i c1)).setCell h (mn_o c h (j + 1))).heap.size = h + 1 + (j + 1) := by
      rw [size_setCell]
      show (U.heap.push _).size = _
      rw [Array.size_push, h1]
      omega
    have hp : ∀ q, q ≠ h → ((U.pushCell (mn_i c1)).setCell h (mn_o c h (j + 1))).heap[q]? = (U.heap.push (mn_i c1))[q]? := fun q hq => heapAt_setCell_ne _ (Ne.symm hq)
    refine ⟨z, heapAt_setCell_self _ (by show h < (U.heap.push _).size; rw [Array.size_push, h1]; omega), fun i hi => ?_, fun q hq => ?_, h5, ?_, h7⟩
    · rw [hp _ (by omega)]
      by_cases e : i = j
      · rw [e, ← h1, Array.getElem?_push_size]
      · rw [Array.getElem?_push, if_neg (by omega)]
        exact h3 i (by omega)
    · rw [hp _ (by omega), Array.getElem?_push, if_neg (by omega)]
      exact h4 q hq
    · show U.slotsUsed + (mn_i c1).slots.size = _
      unfold mn_i
      rw [arrV_size, h6]
      omega
section MNA
variable {Q : Unit → Pre} {E : CtlPost} {e : Env} {d : Bool} {acts : List Action} {s : State} {f : JFrame}
/-- a new row of five ints -/
theorem mn_in {c1 x : ClassId} {k : Class} {Q : Addr → Pre} (hk : s.vm.classes[c1]? = some k) (hkind : k.kind = .array x .int) (hl : ¬ 5 > e.platform.arrayLengthLimit) (hb : ¬ 5 * componentBytes .int > e.platform.maxHeapBytes) (hz : s.heap.size < e.platform.maxCells) (hu : s.slotsUsed + 5 ≤ e.platform.maxSlots) (hQ : ∀ d acts, Q s.heap.size d acts (s.pushCell (mn_i c1))) : wp (Op.multianewarray.make c1 [5]) Q E e d acts s := by
  have e1 : (5 : Int32).toNatClampNeg = 5 := rfl
  have e2 : ¬ (5 : Int32) < 0 := by decide
  have hfit : ∀ i v, (Array.replicate 5 (defaultValue .int))[i]? = some v → s.fitsSlot c1 .none i v = true := by
    intro i v hv
    simp only [Array.getElem?_replicate] at hv
    split at hv
    · cases hv
      simp [State.fitsSlot, State.slotType?, hk, hkind, defaultValue, fits]
    · cases hv
  simp only [Op.multianewarray.make, wp_bind', W.ite, e2, if_false, W.theClass, hk, hkind, Option.some.injEq, exists_eq_left', Jvm.newArray, Jvm.arrayFits, W.ask, e1, hl, W.alloc, W.stop, hb, wp_pure']
  split
  · rename_i w
    omega
  · refine ⟨hz, by rw [Array.size_replicate]; exact hu, hfit, ?_⟩
    rw [arrV_new]
    exact hQ _ _
theorem mn_one {c c1 x : ClassId} {h j : Nat} {kc k : Class} {Q : ForInStep PUnit → Pre} (hj : j < 5) (hh : s.heap.size = h) (hkc : s.vm.classes[c]? = some kc) (hkindc : kc.kind = .array c1 (.array .int)) (hk : s.vm.classes[c1]? = some k) (hkind : k.kind = .array x .int) (hl : ¬ 5 > e.platform.arrayLengthLimit) (hb : ¬ 5 * componentBytes .int > e.platform.maxHeapBytes) (hz : h + 6 ≤ e.platform.maxCells) (hu : s.slotsUsed + 30 ≤ e.platform.maxSlots) (hQ : ∀ d acts, Q (.yield PUnit.unit) d acts (mn_S c c1 h (j + 1) s)) : wp (do let v ← Op.multianewarray.make c1 [5]; Jvm.writeLoc h j (.ref v); Pure.pure (ForInStep.yield PUnit.unit)) Q E e d acts (mn_S c c1 h j s) := by
  obtain ⟨h1, h2, h3, h4, h5, h6, h7⟩ := mn_S_f c c1 s hh j
  rw [wp_bind']
  refine mn_in (x := x) (k := k) (by rw [h5]; exact hk) hkind hl hb (by omega) (by omega) (fun d2 acts2 => ?_)
  rw [wp_bind', W.writeLoc]
  have hc : ((mn_S c c1 h j s).pushCell (mn_i c1)).heap[h]? = some (mn_o c h j) := by
    show ((mn_S c c1 h j s).heap.push _)[h]? = _
    rw [Array.getElem?_push, if_neg (by omega)]
    exact h2
  have hv : ((mn_S c c1 h j s).pushCell (mn_i c1)).vm = s.vm := h5
  refine ⟨mn_o c h j, hc, (fun q => by cases q), (by show j < (arrV _ _ _).slots.size; rw [arrV_size]; exact hj), ?_, ?_⟩
  · show State.fitsSlot _ c .none j _ = true
    unfold State.fitsSlot State.slotType?
    simp [h5, hkc, hkindc, fits]
  · rw [wp_pure', h1]
    exact hQ _ _
theorem mn_wp {index : Nat} {c c1 x : ClassId} {rest : List Value} {kc k : Class} {h : Nat} (hs : s.topJava?.isSome) (hr : s.vm.classReady f.method.cls index c) (hkc : s.vm.classes[c]? = some kc) (hkindc : kc.kind = .array c1 (.array .int)) (hk : s.vm.classes[c1]? = some k) (hkind : k.kind = .array x .int) (hstack : f.stack = .int 5 :: .int 5 :: rest) (hh : s.heap.size = h) (hl : ¬ 5 > e.platform.arrayLengthLimit) (hb : ¬ 5 * componentBytes .int > e.platform.maxHeapBytes) (hb2 : ¬ 5 * componentBytes (.array .int) > e.platform.maxHeapBytes) (hz : h + 6 ≤ e.platform.maxCells) (hu : s.slotsUsed + 30 ≤ e.platform.maxSlots) (hQ : ∀ d acts, Q () d acts ((mn_S c c1 h 5 s).setTop { f with stack := .ref h :: rest })) : wp (Op.multianewarray.sem index 2) Q E e d acts (s.setTop f) := by
  simp only [Op.multianewarray.sem, wp_bind', W.resolveClassAt_ready (State.method?_setTop f hs) hr]
  rw [show (2 : Nat) = [Value.int 5, Value.int 5].length from rfl, Op.popN_top hs (args := [.int 5, .int 5]) (rest := rest) hstack]
  have e1 : (5 : Int32).toNatClampNeg = 5 := rfl
  have e2 : ¬ (5 : Int32) < 0 := by decide
  have e3 : ((5 : Int32) == 0) = false := by decide
  have hfit : ∀ i v, (Array.replicate 5 Value.null)[i]? = some v → s.fitsSlot c .none i v = true := by
    intro i v hv
    simp only [Array.getElem?_replicate] at hv
    split at hv
    · cases hv
      simp [State.fitsSlot, State.slotType?, hkc, hkindc, fits]
    · cases hv
  simp only [List.mapM_cons, List.mapM_nil, wp_bind', wp_pure']
  unfold Op.multianewarray.make
  simp only [wp_bind', W.ite, e2, if_false, W.theClass, State.vm_setTop, hkc, hkindc, Option.some.injEq, exists_eq_left', Jvm.newArray, Jvm.arrayFits, W.ask, e1, hl, W.alloc, W.stop, hb2, wp_pure', e3]
  have hU : (s.setTop { f with stack := rest }).heap.size = h := hh
  have hUv : (s.setTop { f with stack := rest }).vm = s.vm := rfl
  have hUu : (s.setTop { f with stack := rest }).slotsUsed = s.slotsUsed := rfl
  have hUs : (s.setTop { f with stack := rest }).topJava?.isSome := by
    rw [State.topJava?_setTop' _ hs]
    rfl
  have hUf : ∀ i v, (s.setTop { f with stack := rest }).fitsSlot c .none i v = s.fitsSlot c .none i v := fun _ _ => rfl
  have hT : ∀ g : JFrame, (mn_S c c1 h 5 (s.setTop { f with stack := rest })).setTop g = (mn_S c c1 h 5 s).setTop g := fun g => by
    rw [mn_S_top, State.setTop_setTop]
  have hTt : (mn_S c c1 h 5 (s.setTop { f with stack := rest })).topJava? = some { f with stack := rest } := by
    rw [(mn_S_f c c1 (s.setTop { f with stack := rest }) hU 5).2.2.2.2.2.2]
    exact State.topJava?_setTop' _ hs
  generalize s.setTop { f with stack := rest } = U at hU hUv hUu hUs hUf hT hTt ⊢
  rw [if_neg (by omega)]
  refine ⟨by omega, by rw [Array.size_replicate, hUu]; omega, fun i v q => by rw [hUf]; exact hfit i v q, ?_⟩
  rw [if_neg (by decide), hU, arrV_new, show arrV c 5 (fun _ => Value.null) = mn_o c h 0 from mn_o0 c h]
  have hz5 : ∀ (j : Nat) (_ : j < 5) {Q2 : ForInStep PUnit → Pre} {d2 : Bool} {acts2 : List Action}, (∀ d acts, Q2 (.yield PUnit.unit) d acts (mn_S c c1 h (j + 1) U)) → wp (do let v ← Op.multianewarray.make c1 [5]; Jvm.writeLoc h j (.ref v); Pure.pure (ForInStep.yield PUnit.unit)) Q2 E e d2 acts2 (mn_S c c1 h j U) := fun j hj Q2 d2 acts2 q => mn_one hj hU (by rw [hUv]; exact hkc) hkindc (by rw [hUv]; exact hk) hkind hl hb hz (by rw [hUu]; exact hu) q
  rw [Std.Legacy.Range.forIn_eq_forIn_range']
  show wp (forIn [0, 1, 2, 3, 4] PUnit.unit _) _ E e _ _ (mn_S c c1 h 0 U)
  simp only [List.forIn_cons, List.forIn_nil]
  rw [wp_bind']
  refine hz5 0 (by decide) (fun d0 a0 => ?_)
  show wp (_ >>= _) _ E e _ _ _
  rw [wp_bind']
  refine hz5 1 (by decide) (fun d1 a1 => ?_)
  show wp (_ >>= _) _ E e _ _ _
  rw [wp_bind']
  refine hz5 2 (by decide) (fun d2 a2 => ?_)
  show wp (_ >>= _) _ E e _ _ _
  rw [wp_bind']
  refine hz5 3 (by decide) (fun d3 a3 => ?_)
  show wp (_ >>= _) _ E e _ _ _
  rw [wp_bind']
  refine hz5 4 (by decide) (fun d4 a4 => ?_)
  simp only [wp_pure', wp_bind', W.mark, W.pushRef, hTt, Option.some.injEq, exists_eq_left', hT]
  exact hQ _ _
end MNA
theorem mn_cold {Q : Unit → Pre} {E : CtlPost} {e : Env} {d : Bool} {acts : List Action} {s : State} {f : JFrame} {index c : Nat} {vm' : Vm} (hs : s.topJava?.isSome) (hg : (Jvm.resolveClass f.method.cls index).Gives e.toSetting s.vm (.ok c) vm') (hr : vm'.classReady f.method.cls index c) (hsz : vm'.classes.size ≤ s.vm.classes.size := by no_record) :
    wp (Op.multianewarray.sem index 2) Q E e d acts (s.setTop f) ↔ wp (Op.multianewarray.sem index 2) Q E e d acts ((s.setVm vm').setTop f) := by
  simp only [Op.multianewarray.sem, wp_bind']
  exact W.resolveClassAt_transfer (s := s.setTop f) (State.method?_setTop f hs) hg hr
section MNW
variable {p : Program} {l : Launch} {e : Env} {R : Room} {s : State} {m : MethodId} {args : Array Value} {below : List Frame} {meth : Method} {c : Code} {H : Heap} {locs : List Loc} {cells slots : Nat} {Q : State → Prop}
def mn_L (h : Nat) : Nat → List Loc → List Loc
  | 0, l => l
  | j + 1, l => mn_L h j l ++ [⟨h, j⟩]
theorem mn_L_m (h : Nat) (l : List Loc) (q : Loc) : ∀ j, q ∈ mn_L h j l → q ∈ l ∨ q.base = h
  | 0, w => Or.inl w
  | j + 1, w => by
    rcases List.mem_append.mp w with w | w
    · exact mn_L_m h l q j w
    · rw [List.mem_singleton.mp w]
      exact Or.inr rfl
theorem mn_X {cA c1 : ClassId} {h : Nat} {T : State} (X : Stand p l e R s m args below meth c T locs cells slots) (hh : T.heap.size = h) : ∀ j, Stand p l e R s m args below meth c (mn_S cA c1 h j T) (mn_L h j locs) (cells + 1 + j) (slots + 5 + 5 * j)
  | 0 => by
    have w := X.pushed (mn_o cA h 0)
    rw [show (mn_o cA h 0).slots.size = 5 from by unfold mn_o; rw [arrV_size]] at w
    exact w
  | j + 1 => by
    have w := (mn_X (cA := cA) (c1 := c1) X hh j).pushed (mn_i c1)
    rw [show (mn_i c1).slots.size = 5 from by unfold mn_i; rw [arrV_size]] at w
    obtain ⟨h1, h2, h3, h4, h5, h6, h7⟩ := mn_S_f cA c1 T hh j
    have hc : ((mn_S cA c1 h j T).pushCell (mn_i c1)).heap[h]? = some (mn_o cA h j) := by
      show ((mn_S cA c1 h j T).heap.push _)[h]? = _
      rw [Array.getElem?_push, if_neg (by omega)]
      exact h2
    have w2 := w.stored hc j (.ref (h + 1 + j))
    rw [show cells + 1 + j + 1 = cells + 1 + (j + 1) by omega, show slots + 5 + 5 * j + 5 = slots + 5 + 5 * (j + 1) by omega] at w2
    exact w2
theorem W_mna {cc : ByteArray} (hexec : p.tables.exec = Jvm.exec) (hb : c.code = cc) {own : String} {index : Nat} (hown : s.vm.findClass own = some m.cls) (hclink : (Cond.classLink own index "[[I").before args s = true) (hover : (Cond.arrayOver (.array .int)).before args s = true) {c1 : ClassId} (hc1 : s.vm.findClass "[I" = some c1) (hA1 : ArrOfT s c1 .int)
    {g : JFrame} (hg : g.method = m) (hdg : decode cc g.pc = .ok (.multianewarray index 2, 4)) {rest : List Value} (hstack : g.stack = .int 5 :: .int 5 :: rest) (hcells : cells + 6 ≤ R.cells) (hslots : slots + 30 ≤ R.slots) {h : Nat} (hh : H.size = h)
    (kk : ∀ (H1 : Heap) (cA : ClassId), s.vm.findClass "[[I" = some cA → H1.size = h + 6 → H1[h]? = some (mn_o cA h 5) → (∀ i, i < 5 → H1[h + 1 + i]? = some (mn_i c1)) → (∀ q, q < h → H1[q]? = H[q]?) → W p l e R s m args below meth c H1 (mn_L h 5 locs) (cells + 6) (slots + 30) Q { g with pc := g.pc + 4, stack := .ref h :: rest }) : W p l e R s m args below meth c H locs cells slots Q g := by
  intro T hT X
  subst hT; subst hb; subst hg
  have hpl : e.platform.magicAccessors = ({} : Platform).magicAccessors := by rw [X.admits.platform]
  obtain ⟨comp, cA, kA, hcomp, hidx, hkA, hkindA, hnameA⟩ := arrayOverA_spec hover
  have hcc : comp = c1 := Option.some.inj (hcomp.symm.trans hc1)
  subst hcc
  have hnA : s.vm.findClass "[[I" = some cA := hnameA
  obtain ⟨cc', hfcc, hcl⟩ := Cond.classLink_spec hown hclink e.platform hpl
  cases hnA.symm.trans hfcc
  obtain ⟨hg₁, hwarm₁, hready₁⟩ := State.classEntry (e := e) X.warmed hcl
  generalize T.vm.noted g.method.cls index (.cls cA) = vm₁ at hg₁ hwarm₁ hready₁
  have hal : s.vm.Alike vm₁ := hwarm₁.alike
  obtain ⟨kA₁, hkA₁, heA⟩ := hal.2.2 _ _ hkA
  have hkindA₁ : kA₁.kind = .array comp (.array .int) := by rw [heA]; exact hkindA
  obtain ⟨-, kI, hkI, x, hkindI⟩ := hA1 0 (fun _ => .null)
  obtain ⟨kI₁, hkI₁, heI⟩ := hal.2.2 _ _ hkI
  have hkindI₁ : kI₁.kind = .array x .int := by rw [heI]; exact hkindI
  have X₁ := X.noted hwarm₁
  have hh1 : (T.setVm vm₁).heap.size = h := hh
  have X₅ := mn_X (cA := cA) (c1 := comp) X₁ hh1 5
  obtain ⟨f1, f2, f3, f4, f5, f6, f7⟩ := mn_S_f cA comp (T.setVm vm₁) hh1 5
  obtain ⟨hr1, hr2⟩ := X.roomAbove hcells hslots
  have hlim : ¬ 5 > e.platform.arrayLengthLimit := by rw [Launch.admits_arrayLengthLimit X.admits]; omega
  have hhp : ¬ 5 * componentBytes .int > e.platform.maxHeapBytes := by rw [Launch.admits_maxHeapBytes X.admits]; show ¬ 5 * 4 > 536870912; omega
  have hhp2 : ¬ 5 * componentBytes (.array .int) > e.platform.maxHeapBytes := by rw [Launch.admits_maxHeapBytes X.admits]; show ¬ 5 * 4 > 536870912; omega
  obtain ⟨t', a1, b1⟩ := kk _ cA hnA (by rw [f1]) f2 f3 (fun q hq => f4 q hq) (mn_S cA comp h 5 (T.setVm vm₁)) rfl (by
    rw [show cells + 6 = cells + 1 + 5 by omega, show slots + 30 = slots + 5 + 5 * 5 by omega]
    exact X₅)
  refine ⟨t', ?_, b1⟩
  jvm_step X.here [hexec, hdg, mn_cold (e := e) (s := T) (f := g) X.here.top hg₁ hready₁]
  refine mn_wp (s := T.setVm vm₁) (f := g) (kc := kA₁) (k := kI₁) (x := x) X.here.top hready₁ hkA₁ hkindA₁ hkI₁ hkindI₁ hstack hh1 hlim hhp hhp2 (by omega) (by show T.slotsUsed + 30 ≤ _; omega) (fun d acts => ?_)
  intro acts2
  rw [afterInstr_ok]
  exact a1
end MNW
