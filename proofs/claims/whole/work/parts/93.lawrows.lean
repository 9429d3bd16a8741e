/-! THE CLAIM OUT OF ONE WALK OF THE LAW'S BODY. Your part is whole_start (and what it stands on); all else here is the same for every law, but numbers. -/
def R_law : String := "MeetHouseLaw"
def lw_P (b : Addr) (xs : List Int32) (args : Array Value) (s : State) : Prop := args = #[.ref b] ∧ s.IntsAt b xs ∧ xs.length ≤ 3072 ∧ (Jvm.Cond.and given_1 narrow_1).before args s = true
def lw_Q (_ : Array Value) (s : State) (o : Outcome) (t : State) : Prop := o = .returned (some (.int 1)) ∧ Framed s o t [] 600000 7302250
def lw_Z (below : List Frame) (a : Array Value) (s : State) : State → Prop := fun t => ∃ o, t.status = .running ∧ Ended t below o ∧ lw_Q a s o t
/-- the law's own end, with 1 on the stack, nothing written that was there before, its room as the claim has it -/
theorem lw_ret {p : Program} {l : Launch} {e : Env} {s : State} {m : MethodId} {below : List Frame} {meth : Method} {c : Code} {b : Nat} (hx : p.tables.exec = Jvm.exec) (hb : c.code = code) (hr : meth.sig.returnType = ret) (hlocks : meth.locks = false) {pc : Nat} {H : Heap} {ls : Array Slot} (hdg : decode code pc = .ok (.ireturn, 1)) : W p l e room_1 s m #[Value.ref b] below meth c H [] 600000 7302250 (lw_Z below #[Value.ref b] s) (F0 m pc ls [.int 1]) := by
  intro T hT X
  obtain ⟨fs, hret, hrun, hended, hW, hframe⟩ := X.leave (v := some (.int 1)) (hlocks := hlocks) (fun h => by rw [hr] at h; cases h)
  have hmeth' : T.vm.method? m = some meth := X.method'
  refine ⟨T.setFrames fs, ?_, .returned (some (.int 1)), hrun, hended, rfl, ⟨_, rfl⟩, hW, hframe⟩
  jvm_step X.here [X.here.top, hx, hb, hdg, hmeth', hr, ret, narrow_b1]
  (try refine ⟨rfl, ?_⟩); (try refine ⟨rfl, ?_⟩)
  first | (intro acts; rw [hret _ acts rfl rfl rfl]) | rw [hret _ _ rfl rfl rfl]
  exact Steps.refl _
/-- what holds at the law's entry: the machine, the code, the tables' words (any of lw_tbl by 'hts w (by decide +kernel)'), the script of L ints xs at the cell b, what the Statement gives of the start (any of its parts by flat_of_before) -/
def lw_At (p : Program) (s : State) (m : MethodId) (meth : Method) (c : Code) (b L : Nat) (xs : Nat → Int32) : Prop :=
  p.tables.exec = Jvm.exec ∧ c.code = code ∧ meth.sig.returnType = ret ∧ c.maxLocals = 4 ∧ s.vm.findClass R_law = some m.cls ∧ (∀ w ∈ lw_tbl, w.before #[Value.ref b] s = true) ∧ va_X b L xs s s.heap ∧ b < s.heap.size ∧ meth.locks = false ∧ (Jvm.Cond.and given_1 narrow_1).before #[Value.ref b] s = true
-- ===== YOUR PART BEGINS =====
/-! ===== the law's own walk: two worlds beside each other ===== -/
abbrev LE : Type := (Program) × (Launch) × (Env) × (State) × (MethodId) × (List Frame) × (Method) × (Code) × (va_G) × (Nat → ClassId) × (Nat) × (Nat) × (Nat → Int32)
def LE.p (E : LE) : Program := E.1
def LE.l (E : LE) : Launch := E.2.1
def LE.e (E : LE) : Env := E.2.2.1
def LE.s (E : LE) : State := E.2.2.2.1
def LE.m (E : LE) : MethodId := E.2.2.2.2.1
def LE.below (E : LE) : List Frame := E.2.2.2.2.2.1
def LE.meth (E : LE) : Method := E.2.2.2.2.2.2.1
def LE.c (E : LE) : Code := E.2.2.2.2.2.2.2.1
def LE.D (E : LE) : va_G := E.2.2.2.2.2.2.2.2.1
def LE.dA (E : LE) : Nat → ClassId := E.2.2.2.2.2.2.2.2.2.1
def LE.b (E : LE) : Nat := E.2.2.2.2.2.2.2.2.2.2.1
def LE.L (E : LE) : Nat := E.2.2.2.2.2.2.2.2.2.2.2.1
def LE.xs (E : LE) : Nat → Int32 := E.2.2.2.2.2.2.2.2.2.2.2.2
def LE.N1 (E : LE) : Nat := E.s.heap.size
def LE.N2 (E : LE) : Nat := E.N1 + 87
def LE.A (E : LE) : Nat → Prop := fun q => E.N1 ≤ q
def LE.A1 (E : LE) : Nat → Prop := fun q => E.N1 ≤ q ∧ q < E.N2
def LE.A2 (E : LE) : Nat → Prop := fun q => E.N2 ≤ q
def LE.ok (E : LE) : Prop := lw_At E.p E.s E.m E.meth E.c E.b E.L E.xs ∧ fv_K E.D E.dA E.s ∧ fo_K E.s ∧ E.L ≤ 3072
def lA (E : LE) (k t pc : Nat) (lv : List (Nat × Value)) (st : List Value) (f1 f2 : fv_F) : Prop :=
  ∀ (H : Heap) (locs : List Loc) (ls : Array Slot), fv_R E.D E.dA E.N1 E.A1 f1 H → fv_R E.D E.dA E.N2 E.A2 f2 H → va_S E.A E.s.heap H locs → lv_has ls 4 lv →
    W E.p E.l E.e room_1 E.s E.m #[Value.ref E.b] E.below E.meth E.c H locs k t (lw_Z E.below #[Value.ref E.b] E.s) (F0 E.m pc ls st)
section LAR
variable {E : LE} {k t pc : Nat} {lv : List (Nat × Value)} {st : List Value} {f1 f2 : fv_F}
theorem LE.hx (hE : E.ok) : E.p.tables.exec = Jvm.exec := hE.1.1
theorem LE.hb (hE : E.ok) : E.c.code = cL_law := hE.1.2.1
theorem LE.hts (hE : E.ok) : ∀ w ∈ fv_tbl, w.before #[Value.ref E.b] E.s = true := fun w hw => hE.1.2.2.2.2.2.1 w (List.mem_filter.mp hw).1
theorem LE.hown (hE : E.ok) : E.s.vm.findClass RL = some E.m.cls := hE.1.2.2.2.2.1
theorem la_iconst {n : Int} {v : Int32} (hE : E.ok) (hd : decode cL_law pc = .ok (.iconst n, 1)) (hv : Int32.ofInt n = v) (kk : lA E k t (pc + 1) lv (.int v :: st) f1 f2) : lA E k t pc lv st f1 f2 :=
  fun H locs ls h1 h2 hS hl => lv_iconst (LE.hx hE) (LE.hb hE) hd hv (kk H locs ls h1 h2 hS hl)
theorem la_bipush {n : Int} {v : Int32} (hE : E.ok) (hd : decode cL_law pc = .ok (.bipush n, 2)) (hv : (Int8.ofInt n).toInt32 = v) (kk : lA E k t (pc + 2) lv (.int v :: st) f1 f2) : lA E k t pc lv st f1 f2 :=
  fun H locs ls h1 h2 hS hl => lv_bipush (LE.hx hE) (LE.hb hE) hd hv (kk H locs ls h1 h2 hS hl)
theorem la_iload_n {n : Fin 4} {i : Nat} {x : Int32} (hE : E.ok) (hd : decode cL_law pc = .ok (.iload_n n, 1)) (hi : (n : Nat) = i) (hg : (i, Value.int x) ∈ lv) (kk : lA E k t (pc + 1) lv (.int x :: st) f1 f2) : lA E k t pc lv st f1 f2 :=
  fun H locs ls h1 h2 hS hl => lv_iload_n (LE.hx hE) (LE.hb hE) hd hi (hl.2.2 _ hg) (kk H locs ls h1 h2 hS hl)
theorem la_aload_n {n : Fin 4} {i a : Nat} (hE : E.ok) (hd : decode cL_law pc = .ok (.aload_n n, 1)) (hi : (n : Nat) = i) (hg : (i, Value.ref a) ∈ lv) (kk : lA E k t (pc + 1) lv (.ref a :: st) f1 f2) : lA E k t pc lv st f1 f2 :=
  fun H locs ls h1 h2 hS hl => lv_aload_n (LE.hx hE) (LE.hb hE) hd hi (hl.2.2 _ hg) (kk H locs ls h1 h2 hS hl)
theorem la_iadd {x z : Int32} (hE : E.ok) (hd : decode cL_law pc = .ok (.iadd, 1)) (kk : lA E k t (pc + 1) lv (.int (x + z) :: st) f1 f2) : lA E k t pc lv (.int z :: .int x :: st) f1 f2 :=
  fun H locs ls h1 h2 hS hl => lv_iadd (LE.hx hE) (LE.hb hE) hd (kk H locs ls h1 h2 hS hl)
theorem la_isub {x z : Int32} (hE : E.ok) (hd : decode cL_law pc = .ok (.isub, 1)) (kk : lA E k t (pc + 1) lv (.int (x - z) :: st) f1 f2) : lA E k t pc lv (.int z :: .int x :: st) f1 f2 :=
  fun H locs ls h1 h2 hS hl => lv_isub (LE.hx hE) (LE.hb hE) hd (kk H locs ls h1 h2 hS hl)
theorem la_iand {x z : Int32} (hE : E.ok) (hd : decode cL_law pc = .ok (.iand, 1)) (kk : lA E k t (pc + 1) lv (.int (x &&& z) :: st) f1 f2) : lA E k t pc lv (.int z :: .int x :: st) f1 f2 :=
  fun H locs ls h1 h2 hS hl => lv_iand (LE.hx hE) (LE.hb hE) hd (kk H locs ls h1 h2 hS hl)
theorem la_i2l {x : Int32} (hE : E.ok) (hd : decode cL_law pc = .ok (.i2l, 1)) (kk : lA E k t (pc + 1) lv (.long x.toInt64 :: st) f1 f2) : lA E k t pc lv (.int x :: st) f1 f2 :=
  fun H locs ls h1 h2 hS hl => lv_i2l (LE.hx hE) (LE.hb hE) hd rfl (kk H locs ls h1 h2 hS hl)
theorem la_land {x z : Int64} (hE : E.ok) (hd : decode cL_law pc = .ok (.land, 1)) (kk : lA E k t (pc + 1) lv (.long (x &&& z) :: st) f1 f2) : lA E k t pc lv (.long z :: .long x :: st) f1 f2 :=
  fun H locs ls h1 h2 hS hl => lv_land (LE.hx hE) (LE.hb hE) hd (kk H locs ls h1 h2 hS hl)
theorem la_lor {x z : Int64} (hE : E.ok) (hd : decode cL_law pc = .ok (.lor, 1)) (kk : lA E k t (pc + 1) lv (.long (x ||| z) :: st) f1 f2) : lA E k t pc lv (.long z :: .long x :: st) f1 f2 :=
  fun H locs ls h1 h2 hS hl => lv_lor (LE.hx hE) (LE.hb hE) hd (kk H locs ls h1 h2 hS hl)
theorem la_lshl {x : Int64} {z : Int32} (hE : E.ok) (hd : decode cL_law pc = .ok (.lshl, 1)) (kk : lA E k t (pc + 1) lv (.long (x <<< (z.toInt64 &&& 63)) :: st) f1 f2) : lA E k t pc lv (.int z :: .long x :: st) f1 f2 :=
  fun H locs ls h1 h2 hS hl => lv_lshl (LE.hx hE) (LE.hb hE) hd rfl (kk H locs ls h1 h2 hS hl)
theorem la_ldc2 {i : Nat} {v : Int64} (hE : E.ok) (hd : decode cL_law pc = .ok (.ldc2_w i, 3)) (hw : Jvm.Cond.constantLong RL i v ∈ fv_tbl) (kk : lA E k t (pc + 3) lv (.long v :: st) f1 f2) : lA E k t pc lv st f1 f2 :=
  fun H locs ls h1 h2 hS hl => lv_ldc2 (LE.hx hE) (LE.hb hE) (LE.hown hE) (LE.hts hE _ hw) hd (kk H locs ls h1 h2 hS hl)
theorem la_lcmp {x z : Int64} (hE : E.ok) (hd : decode cL_law pc = .ok (.lcmp, 1)) (kk : lA E k t (pc + 1) lv (.int (lg_cmp x z) :: st) f1 f2) : lA E k t pc lv (.long z :: .long x :: st) f1 f2 :=
  fun H locs ls h1 h2 hS hl => W.lcmp (LE.hx hE) (LE.hb hE) hd (kk H locs ls h1 h2 hS hl)
theorem la_if_eq {x : Int32} {off : Int} {tgt : Nat} (hE : E.ok) (hd : decode cL_law pc = .ok (.ifCond .eq off, 3)) (ht : (pc : Int) + off = (tgt : Int)) (hxz : x = 0) (kt : lA E k t tgt lv st f1 f2) : lA E k t pc lv (.int x :: st) f1 f2 :=
  fun H locs ls h1 h2 hS hl => lv_if_eq (LE.hx hE) (LE.hb hE) hd ht (fun _ => kt H locs ls h1 h2 hS hl) (fun h => absurd hxz h)
theorem la_icmp_eq {x : Int32} {off : Int} {tgt : Nat} (hE : E.ok) (hd : decode cL_law pc = .ok (.if_icmp .eq off, 3)) (ht : (pc : Int) + off = (tgt : Int)) (kt : lA E k t tgt lv st f1 f2) : lA E k t pc lv (.int x :: .int x :: st) f1 f2 :=
  fun H locs ls h1 h2 hS hl => lv_icmp_eq (LE.hx hE) (LE.hb hE) hd ht (fun _ => kt H locs ls h1 h2 hS hl) (fun h => absurd rfl h)
theorem la_icmp_gt {x z : Int32} {off : Int} {tgt : Nat} (hE : E.ok) (hd : decode cL_law pc = .ok (.if_icmp .gt off, 3)) (ht : (pc : Int) + off = (tgt : Int)) (kt : (z < x) → lA E k t tgt lv st f1 f2) (kf : ¬ (z < x) → lA E k t (pc + 3) lv st f1 f2) : lA E k t pc lv (.int z :: .int x :: st) f1 f2 :=
  fun H locs ls h1 h2 hS hl => lv_icmp_gt (LE.hx hE) (LE.hb hE) hd ht (fun h => kt h H locs ls h1 h2 hS hl) (fun h => kf h H locs ls h1 h2 hS hl)
theorem la_goto {off : Int} {tgt : Nat} (hE : E.ok) (hd : decode cL_law pc = .ok (.goto off, 3)) (ht : (pc : Int) + off = (tgt : Int)) (kk : lA E k t tgt lv st f1 f2) : lA E k t pc lv st f1 f2 :=
  fun H locs ls h1 h2 hS hl => lv_goto (LE.hx hE) (LE.hb hE) hd ht (kk H locs ls h1 h2 hS hl)
theorem la_tableIn {dflt lo hi : Int} {offs : Array Int} {len : Nat} {x : Int32} {off : Int} {tgt : Nat} (hE : E.ok) (hd : decode cL_law pc = .ok (.tableswitch dflt lo hi offs, len)) (h1 : ¬ x.toInt < lo) (h2 : ¬ hi < x.toInt) (ho : offs[(x.toInt - lo).toNat]? = some off) (ht : (pc : Int) + off = (tgt : Int)) (kk : lA E k t tgt lv st f1 f2) : lA E k t pc lv (.int x :: st) f1 f2 :=
  fun H locs ls g1 g2 hS hl => lv_tableIn (LE.hx hE) (LE.hb hE) hd h1 h2 ho ht (kk H locs ls g1 g2 hS hl)
theorem la_tableOut {dflt lo hi : Int} {offs : Array Int} {len : Nat} {x : Int32} {tgt : Nat} (hE : E.ok) (hd : decode cL_law pc = .ok (.tableswitch dflt lo hi offs, len)) (h : x.toInt < lo ∨ hi < x.toInt) (ht : (pc : Int) + dflt = (tgt : Int)) (kk : lA E k t tgt lv st f1 f2) : lA E k t pc lv (.int x :: st) f1 f2 :=
  fun H locs ls g1 g2 hS hl => lv_tableOut (LE.hx hE) (LE.hb hE) hd h ht (kk H locs ls g1 g2 hS hl)
theorem LE.bA (hE : E.ok) : E.b < E.s.heap.size ∧ ¬ E.A E.b := by
  have h := hE.1.2.2.2.2.2.2.2.1
  exact ⟨h, Nat.not_le.mpr h⟩
/-- an int of the script -/
theorem la_sld {i : Int32} {j : Nat} (hE : E.ok) (hd : decode cL_law pc = .ok (.iaload, 1)) (hi : i = nI j) (hj : j < E.L) (kk : lA E k t (pc + 1) lv (.int (E.xs j) :: st) f1 f2) : lA E k t pc lv (.int i :: .ref E.b :: st) f1 f2 := by
  intro H locs ls h1 h2 hS hl
  subst hi
  have hL : j < 2 ^ 31 := by have := hE.2.2.2; omega
  refine va_sld (LE.hx hE) (LE.hb hE) hE.1.2.2.2.2.2.2.1 (LE.bA hE).1 (LE.bA hE).2 hS (vp_in_nI hj (by have := hE.2.2.2; omega)) hd ?_
  rw [nI_clamp hL]
  exact kk H locs ls h1 h2 hS hl
theorem la_slen (hE : E.ok) (hd : decode cL_law pc = .ok (.arraylength, 1)) (kk : lA E k t (pc + 1) lv (.int (nI E.L) :: st) f1 f2) : lA E k t pc lv (.ref E.b :: st) f1 f2 :=
  fun H locs ls h1 h2 hS hl => va_slen (LE.hx hE) (LE.hb hE) hE.1.2.2.2.2.2.2.1 (LE.bA hE).1 (LE.bA hE).2 hS hd (kk H locs ls h1 h2 hS hl)
/-- argument 'at place i + j of the script' -/
theorem la_arg {n : Int} {j i : Nat} (hE : E.ok) (d0 : decode cL_law pc = .ok (.aload_n 0, 1)) (d1 : decode cL_law (pc + 1) = .ok (.iload_n 3, 1)) (dc : decode cL_law (pc + 2) = .ok (.iconst n, 1)) (d3 : decode cL_law (pc + 3) = .ok (.iadd, 1)) (d4 : decode cL_law (pc + 4) = .ok (.iaload, 1)) (hn : Int32.ofInt n = nI j) (h0 : (0, Value.ref E.b) ∈ lv) (h3 : (3, Value.int (nI i)) ∈ lv) (hj : i + j < E.L) (kk : lA E k t (pc + 5) lv (.int (E.xs (i + j)) :: st) f1 f2) : lA E k t pc lv st f1 f2 :=
  la_aload_n hE d0 rfl h0 (la_iload_n hE d1 rfl h3 (la_iconst hE dc hn (la_iadd hE d3 (la_sld hE d4 (by rw [nI_add]) hj kk))))
theorem la_iinc {i : Nat} {x v : Int32} {n : Int} {lv2 : List (Nat × Value)} (hE : E.ok) (hd : decode cL_law pc = .ok (.iinc i n, 3)) (hg : (i, Value.int x) ∈ lv) (hv : x + Int32.ofInt n = v) (hi : i < 4) (hp : ∀ q ∈ lv2, q = (i, Value.int v) ∨ (q ∈ lv ∧ q.1 ≠ i ∧ ¬ (q.1 + 1 = i ∧ q.2.category = 2))) (kk : lA E k t (pc + 3) lv2 st f1 f2) : lA E k t pc lv st f1 f2 := by
  intro H locs ls h1 h2 hS hl
  obtain ⟨j, hj⟩ := List.getElem?_of_mem hg
  refine lv_iinc (LE.hx hE) (LE.hb hE) hd hl hj hv hi rfl (fun ls2 hl2 => kk H locs ls2 h1 h2 hS (fv_has hl2 fun q hq => ?_))
  rcases hp q hq with h | ⟨h3, h4, h5⟩
  · rw [h]; exact List.mem_cons_self
  · refine List.mem_cons_of_mem _ (List.mem_filter.mpr ⟨h3, ?_⟩)
    simp only [Bool.and_eq_true, Bool.not_eq_true', beq_eq_false_iff_ne, Bool.and_eq_false_iff]
    refine ⟨h4, ?_⟩
    by_cases c1 : q.1 + 1 = i
    · exact Or.inr (fun c2 => h5 ⟨c1, c2⟩)
    · exact Or.inl c1
/-- behind a call on the class's world -/
theorem la_behind1 {a : Array Value} {Q2 : Option Value → fv_F → Option Nat → Prop} {rest : List Value} {H : Heap} {locs : List Loc} {ls : Array Slot}
    (hr : va_Run E.p E.l E.e room_1 E.s E.m #[Value.ref E.b] E.below E.meth E.c H locs k t 0 0 (F0 E.m pc ls st) rest (fv_Qc E.D E.dA E.N1 E.A1 Q2 a) E.A1) (h2 : fv_R E.D E.dA E.N2 E.A2 f2 H) (hS : va_S E.A E.s.heap H locs) (hl : lv_has ls 4 lv)
    (kk : ∀ (r : Option Value) (g : fv_F) (al2 : Option Nat), Q2 r g al2 → lA E k t (pc + 3) lv ((r.map (fv_v E.N1)).toList ++ rest) g f2) :
    W E.p E.l E.e room_1 E.s E.m #[Value.ref E.b] E.below E.meth E.c H locs k t (lw_Z E.below #[Value.ref E.b] E.s) (F0 E.m pc ls st) := by
  intro T hT X
  obtain ⟨v, st₀, t', T', L, h0, X', hL, e1, e2, ⟨r, f2', al2, hv, hq, hR2, hO2, hz2, hk⟩, stp⟩ := hr T hT X
  cases hv
  rw [h0] at hz2 hk
  rw [← e1] at hR2 hO2 hz2 hk
  have hS2 : va_S E.A E.s.heap T'.heap (locs ++ L) := ⟨Nat.le_trans hS.1 hz2, fun q w1 w2 => by
      rw [hk q (Nat.lt_of_lt_of_le w1 hS.1) (fun w => w2 w.1)]
      exact hS.2.1 q w1 w2, fun q hq => by
    rcases List.mem_append.mp hq with h | h
    · exact hS.2.2 q h
    · exact (hL q h).1⟩
  have h22 : fv_R E.D E.dA E.N2 E.A2 f2 T'.heap := fun i c hi => by
    obtain ⟨g1, g2⟩ := h2 i c hi
    exact ⟨g1, g2.kept (hk _ g2.lt (fun w => Nat.not_lt.mpr (Nat.le_add_right _ _) w.2))⟩
  obtain ⟨t2, a1, b1⟩ := kk r f2' al2 hq T'.heap (locs ++ L) ls hR2 h22 hS2 hl T' rfl X'
  exact ⟨t2, stp t2 a1, b1⟩
theorem la_behind2 {a : Array Value} {Q2 : Option Value → fv_F → Option Nat → Prop} {rest : List Value} {H : Heap} {locs : List Loc} {ls : Array Slot}
    (hr : va_Run E.p E.l E.e room_1 E.s E.m #[Value.ref E.b] E.below E.meth E.c H locs k t 0 0 (F0 E.m pc ls st) rest (fv_Qc E.D E.dA E.N2 E.A2 Q2 a) E.A2) (h1 : fv_R E.D E.dA E.N1 E.A1 f1 H) (hS : va_S E.A E.s.heap H locs) (hl : lv_has ls 4 lv)
    (kk : ∀ (r : Option Value) (g : fv_F) (al2 : Option Nat), Q2 r g al2 → lA E k t (pc + 3) lv ((r.map (fv_v E.N2)).toList ++ rest) f1 g) :
    W E.p E.l E.e room_1 E.s E.m #[Value.ref E.b] E.below E.meth E.c H locs k t (lw_Z E.below #[Value.ref E.b] E.s) (F0 E.m pc ls st) := by
  intro T hT X
  obtain ⟨v, st₀, t', T', L, h0, X', hL, e1, e2, ⟨r, f2', al2, hv, hq, hR2, hO2, hz2, hk⟩, stp⟩ := hr T hT X
  cases hv
  rw [h0] at hz2 hk
  rw [← e1] at hR2 hO2 hz2 hk
  have hN : E.N1 ≤ E.N2 := Nat.le_add_right _ _
  have hS2 : va_S E.A E.s.heap T'.heap (locs ++ L) := ⟨Nat.le_trans hS.1 hz2, fun q w1 w2 => by
      rw [hk q (Nat.lt_of_lt_of_le w1 hS.1) (fun w => w2 (Nat.le_trans hN w))]
      exact hS.2.1 q w1 w2, fun q hq => by
    rcases List.mem_append.mp hq with h | h
    · exact hS.2.2 q h
    · exact Nat.le_trans hN (hL q h)⟩
  have h12 : fv_R E.D E.dA E.N1 E.A1 f1 T'.heap := fun i c hi => by
    obtain ⟨g1, g2⟩ := h1 i c hi
    exact ⟨g1, g2.kept (hk _ g2.lt (fun w => Nat.not_lt.mpr w g1.2))⟩
  obtain ⟨t2, a1, b1⟩ := kk r f2' al2 hq T'.heap (locs ++ L) ls h12 hR2 hS2 hl T' rfl X'
  exact ⟨t2, stp t2 a1, b1⟩
/-- a call on the class's object -/
theorem la_call1 {idx n d2 : Nat} {y2 : fv_Y} {as rest : List Value} {v : Value} {fs : List Value} {P : fv_F → Prop} (hE : E.ok) (hd : decode cL_law pc = .ok (.invokevirtual idx, 3)) (hp : fv_mV RL idx y2 n) (hC : y2.1.cls = RX10) (hf : f1 0 = some (.inr (7, fs))) (hM : fv_M y2 d2 0 0 (.ref 0 :: as) f1 none (fun r g al => r = some v ∧ al = none ∧ P g)) (hst : st = as.reverse ++ .ref E.N1 :: rest) (hn : as.length = n) (has : ∀ N, as.map (fv_v N) = as) (hv : ∀ N, fv_v N v = v) (hdep : d2 < 100) (hcat : (rest.map fun v => v.category).sum ≤ 8) (kk : ∀ g, P g → lA E k t (pc + 3) lv (v :: rest) g f2) (hkt : k ≤ 600000 ∧ t ≤ 7302250) : lA E k t pc lv st f1 f2 := by
  intro H locs ls h1 h2 hS hl
  obtain ⟨⟨g1, g2, g3, g4, g5⟩, g6, g7⟩ := hp
  subst hst
  have hts := LE.hts hE
  have cw := callB_of (R := room_1) (rm := fv_rm d2 0 0) n hts (fv_wsG g3) rfl rfl rfl (hts _ g2) (hts _ g1) g4 ⟨by show d2 + 1 ≤ 2048; omega, by show 8 + (_ + 11) + 64 * d2 ≤ 84000; omega⟩
  have hRet : va_Run E.p E.l E.e room_1 E.s E.m #[Value.ref E.b] E.below E.meth E.c H locs k t 0 0 (F0 E.m pc ls (as.reverse ++ .ref E.N1 :: rest)) rest (fv_Qc E.D E.dA E.N1 E.A1 (fun r g al => r = some v ∧ al = none ∧ P g) ((.ref E.N1 :: as).toArray)) E.A1 := by
    refine va_runV (As := as) (b := E.N1) ⟨LE.hx hE, LE.hb hE, hE.1.2.2.2.1, LE.hown hE, hts⟩ (hM E.l E.D E.dA E.N1 E.A1) ⟨cw, hts _ g6, hts _ g7⟩ ⟨fv_blind, ?_, fun U hU hW => ⟨?_, by rw [hU]; exact h1, fv_Kw hW hE.2.1, fun _ w => by cases w⟩⟩ rfl hn hl.1 rfl (lv_room hcat) hd ⟨hkt.1, hkt.2⟩
    · have w := va_recv hE.2.1.1 (fv_R1 h1 hf) (q0 := 0) (show fv_cl[7]? = some (RX10, TX10, 4) from rfl) rfl
      rw [hC]
      exact w
    · rw [List.map_cons, has]
      rfl
  refine la_behind1 hRet h2 hS hl (fun r g al2 hq => ?_)
  obtain ⟨rfl, rfl, hP⟩ := hq
  show lA E k t (pc + 3) lv ([fv_v E.N1 v] ++ rest) g f2
  rw [hv]
  exact kk g hP
/-- a call on the model's object -/
theorem la_call2 {idx n d2 : Nat} {y2 : fv_Y} {as rest : List Value} {v : Value} {fs : List Value} {P : fv_F → Prop} (hE : E.ok) (hd : decode cL_law pc = .ok (.invokevirtual idx, 3)) (hp : fv_mV RL idx y2 n) (hC : y2.1.cls = RX11) (hf : f2 0 = some (.inr (8, fs))) (hM : fv_M y2 d2 0 0 (.ref 0 :: as) f2 none (fun r g al => r = some v ∧ al = none ∧ P g)) (hst : st = as.reverse ++ .ref E.N2 :: rest) (hn : as.length = n) (has : ∀ N, as.map (fv_v N) = as) (hv : ∀ N, fv_v N v = v) (hdep : d2 < 100) (hcat : (rest.map fun v => v.category).sum ≤ 8) (kk : ∀ g, P g → lA E k t (pc + 3) lv (v :: rest) f1 g) (hkt : k ≤ 600000 ∧ t ≤ 7302250) : lA E k t pc lv st f1 f2 := by
  intro H locs ls h1 h2 hS hl
  obtain ⟨⟨g1, g2, g3, g4, g5⟩, g6, g7⟩ := hp
  subst hst
  have hts := LE.hts hE
  have cw := callB_of (R := room_1) (rm := fv_rm d2 0 0) n hts (fv_wsG g3) rfl rfl rfl (hts _ g2) (hts _ g1) g4 ⟨by show d2 + 1 ≤ 2048; omega, by show 8 + (_ + 11) + 64 * d2 ≤ 84000; omega⟩
  have hRet : va_Run E.p E.l E.e room_1 E.s E.m #[Value.ref E.b] E.below E.meth E.c H locs k t 0 0 (F0 E.m pc ls (as.reverse ++ .ref E.N2 :: rest)) rest (fv_Qc E.D E.dA E.N2 E.A2 (fun r g al => r = some v ∧ al = none ∧ P g) ((.ref E.N2 :: as).toArray)) E.A2 := by
    refine va_runV (As := as) (b := E.N2) ⟨LE.hx hE, LE.hb hE, hE.1.2.2.2.1, LE.hown hE, hts⟩ (hM E.l E.D E.dA E.N2 E.A2) ⟨cw, hts _ g6, hts _ g7⟩ ⟨fv_blind, ?_, fun U hU hW => ⟨?_, by rw [hU]; exact h2, fv_Kw hW hE.2.1, fun _ w => by cases w⟩⟩ rfl hn hl.1 rfl (lv_room hcat) hd ⟨hkt.1, hkt.2⟩
    · have w := va_recv hE.2.1.1 (fv_R1 h2 hf) (q0 := 0) (show fv_cl[8]? = some (RX11, TX11, 38) from rfl) rfl
      rw [hC]
      exact w
    · rw [List.map_cons, has]
      rfl
  refine la_behind2 hRet h1 hS hl (fun r g al2 hq => ?_)
  obtain ⟨rfl, rfl, hP⟩ := hq
  show lA E k t (pc + 3) lv ([fv_v E.N2 v] ++ rest) f1 g
  rw [hv]
  exact kk g hP
end LAR
