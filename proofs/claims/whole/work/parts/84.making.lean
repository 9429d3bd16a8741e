/-! ===== rows that make cells ===== -/
theorem fv_Rpush {D : va_G} {dA : Nat → ClassId} {N n : Nat} {A : Nat → Prop} {f : fv_F} {H H1 : Heap} {c : fv_C} (hR : fv_R D dA N A f H) (hO : fv_O N A (some n) H) (h1 : va_at D fv_cl (N + n, fv_e N dA c) H1) (oq : ∀ q : Nat, q < H.size → H1[q]? = H[q]?) : fv_R D dA N A (fv_set f n c) H1 := by
  intro j b hj
  by_cases e : j = n
  · subst e
    rw [fv_set_self] at hj
    cases hj
    exact ⟨(hO j rfl).2 _ (Nat.le_add_right _ _), h1⟩
  · rw [fv_set_ne f c e] at hj
    obtain ⟨g1, g2⟩ := hR j b hj
    exact ⟨g1, g2.kept (oq (N + j) g2.lt)⟩
theorem fv_Opush {N n : Nat} {A : Nat → Prop} {H H1 : Heap} (hO : fv_O N A (some n) H) (z : H1.size = H.size + 1) : fv_O N A (some (n + 1)) H1 := fun q h => by
  cases h
  have w := (hO n rfl).1
  exact ⟨by omega, (hO n rfl).2⟩
theorem fv_Spush {A : Nat → Prop} {H0 H H1 : Heap} {locs : List Loc} (hS : va_S A H0 H locs) (z : H.size ≤ H1.size) (oq : ∀ q : Nat, q < H.size → H1[q]? = H[q]?) : va_S A H0 H1 locs := ⟨Nat.le_trans hS.1 z, fun x h1 h2 => (oq x (Nat.lt_of_lt_of_le h1 hS.1)).trans (hS.2.1 x h1 h2), hS.2.2⟩
theorem nI_nn {n : Nat} (h : n < 2 ^ 31) : ¬ nI n < 0 := by
  have e := nI_clamp h
  intro w
  rw [show (0 : Int32) = iI 0 from rfl, show nI n = iI (n : Int) from rfl] at w
  rw [iI_lt (by omega) (by omega) (by decide) (by decide)] at w
  omega
section FVM
variable {y : fv_Y} {d mc ms : Nat} {Q : Option Value → fv_F → Option Nat → Prop} {pc : Nat} {lv : fv_L} {st : List Value} {f : fv_F} {al : Option Nat} {k t : Nat}
theorem fx_newa {n ta len : Nat} {atype : ArrayType} {a0 : vp_A} (hd : decode y.2.1 pc = .ok (.newarray atype, 2)) (hw : Cond.arrayClass (newarray.typeOf atype) ∈ fv_tbl) (hta : ∀ dA : Nat → ClassId, (fv_tys dA)[ta]? = some (dA ta, newarray.typeOf atype)) (hnm : ∀ (s : State) (cA : ClassId), va_RA s cA (newarray.typeOf atype) → s.vm.findClass ("[" ++ (newarray.typeOf atype).toString) = some cA) (ha : ∀ (N : Nat) (cA : ClassId), vp_cell cA (fv_a N a0) = arrV cA len (fun _ => defaultValue (newarray.typeOf atype))) (hl : len < 2 ^ 31) (hbytes : len * componentBytes (newarray.typeOf atype) ≤ 536870912) (hk : k + 1 ≤ mc) (ht : t + len ≤ ms)
    (kk : fv_At y d mc ms Q (pc + 2) lv (.ref n :: st) (fv_set f n (.inl (ta, a0))) (some (n + 1)) (k + 1) (t + len)) : fv_At y d mc ms Q pc lv (.int (nI len) :: st) f (some n) k t := by
  intro p l e s m args below meth c D dA N A G H locs ls hR hS hO hlv
  obtain ⟨hx, hb, hr, hlk, hml, hown, hts, ⟨hK, hNq⟩, hmn⟩ := id G
  have hz := (hO n rfl).1
  refine va_newaK hx hb (hts _ hw) rfl hd rfl (nI_nn hl) (nI_clamp hl) hbytes hk ht hz fun H1 cA e1 z1 o1 hAr hNm => ?_
  have hc : cA = dA ta := Option.some.inj (hNm.symm.trans (hnm s _ (hK.2 ta _ (hta dA)).2))
  subst hc
  have o2 : ∀ q : Nat, q < H.size → H1[q]? = H[q]? := fun q hq => o1 q (by omega)
  exact kk p l e s m args below meth c D dA N A G H1 locs ls (fv_Rpush hR hO (by show H1[N + n]? = some (vp_cell (dA ta) (fv_a N a0)); rw [ha]; exact e1) o2) (fv_Spush hS (by omega) o2) (fv_Opush hO (by omega)) hlv
theorem fx_newI {n len : Nat} (hd : decode y.2.1 pc = .ok (.newarray .int, 2)) (hw : Cond.arrayClass .int ∈ fv_tbl) (hl : len ≤ 67108864) (hk : k + 1 ≤ mc) (ht : t + len ≤ ms) (kk : fv_At y d mc ms Q (pc + 2) lv (.ref n :: st) (fv_set f n (.inl (0, len, .inl (fun _ => 0)))) (some (n + 1)) (k + 1) (t + len)) : fv_At y d mc ms Q pc lv (.int (nI len) :: st) f (some n) k t :=
  fx_newa hd hw (fun _ => rfl) (fun _ _ h => h) (fun _ _ => rfl) (by omega) (by show len * 4 ≤ _; omega) hk ht kk
theorem fx_newJ {n len : Nat} (hd : decode y.2.1 pc = .ok (.newarray .long, 2)) (hw : Cond.arrayClass .long ∈ fv_tbl) (hl : len ≤ 67108864) (hk : k + 1 ≤ mc) (ht : t + len ≤ ms) (kk : fv_At y d mc ms Q (pc + 2) lv (.ref n :: st) (fv_set f n (.inl (1, len, .inr (.inl (fun _ => 0))))) (some (n + 1)) (k + 1) (t + len)) : fv_At y d mc ms Q pc lv (.int (nI len) :: st) f (some n) k t :=
  fx_newa hd hw (fun _ => rfl) (fun _ _ h => h) (fun _ _ => rfl) (by omega) (by show len * 8 ≤ _; omega) hk ht kk
theorem fx_newZ {n len : Nat} (hd : decode y.2.1 pc = .ok (.newarray .boolean, 2)) (hw : Cond.arrayClass .boolean ∈ fv_tbl) (hl : len ≤ 67108864) (hk : k + 1 ≤ mc) (ht : t + len ≤ ms) (kk : fv_At y d mc ms Q (pc + 2) lv (.ref n :: st) (fv_set f n (.inl (2, len, .inl (fun _ => 0)))) (some (n + 1)) (k + 1) (t + len)) : fv_At y d mc ms Q pc lv (.int (nI len) :: st) f (some n) k t :=
  fx_newa hd hw (fun _ => rfl) (fun _ _ h => h) (fun _ _ => rfl) (by omega) (by show len * 1 ≤ _; omega) hk ht kk
/-- a new object: a class as a pool names it -/
def fv_nw (own : String) (idx : Nat) (C : String) (nf : Nat) : Prop := Cond.classLink own idx C ∈ fv_tbl ∧ Cond.instantiable C nf ∈ fv_tbl ∧ Cond.initialized C ∈ fv_tbl
theorem fx_new {n idx ci nf : Nat} {C : String} {T : u_T} {ty0 : Nat → FieldType} {fs : List Value} (hd : decode y.2.1 pc = .ok (.new idx, 3)) (hc : fv_cls ci C T nf ty0) (hn : fv_nw y.1.cls idx C nf) (hfs : ∀ j, j < nf → defaultValue (ty0 j) = vp_V fs j) (hfv : ∀ N, fs.map (fv_v N) = fs) (hk : k + 1 ≤ mc) (ht : t + nf ≤ ms)
    (kk : fv_At y d mc ms Q (pc + 3) lv (.ref n :: st) (fv_set f n (.inr (ci, fs))) (some (n + 1)) (k + 1) (t + nf)) : fv_At y d mc ms Q pc lv st f (some n) k t := by
  intro p l e s m args below meth c D dA N A G H locs ls hR hS hO hlv
  obtain ⟨hx, hb, hr, hlk, hml, hown, hts, ⟨hK, hNq⟩, hmn⟩ := id G
  have hz := (hO n rfl).1
  obtain ⟨hc1, hin, hty, hnam⟩ := hc
  have hKn := hK.1 ci _ hc1
  refine W.newcK hx hb hown (hts _ hn.1) (hts _ hn.2.1) (hts _ hn.2.2) rfl hd hk ht hKn.2.1 rfl fun H1 kC hkC e1 z1 o1 => ?_
  have hat : va_at D fv_cl (N + n, fv_e N dA (.inr (ci, fs))) H1 := by
    rw [← hz]
    show va_at D fv_cl (H.size, .inr (ci, fs.map (fv_v N))) H1
    rw [hfv]
    exact ⟨_, hc1, (u_born ty0 hts hin hKn hkC e1 hty).to hfs⟩
  have kk2 := kk p l e s m args below meth c D dA N A G H1 locs ls (fv_Rpush hR hO hat o1) (fv_Spush hS (by omega) o1) (fv_Opush hO (by omega)) hlv
  have e2 : H.size = N + n := hz
  rw [e2]
  exact kk2
theorem fx_putF {a idx ci j : Nat} {ty : FieldType} {fs : List Value} {v : Value} (hd : decode y.2.1 pc = .ok (.putfield idx, 3)) (hp : fv_fd y.1.cls idx ci j true ty) (hin2 : y.1.name = "<init>") (hf : f a = some (.inr (ci, fs))) (hn : ∀ N, narrow ty (fv_v N v) = fv_v N v) (hfit : ∀ N, fits ty (fv_v N v) = true) (hj : j < fs.length)
    (kk : fv_At y d mc ms Q (pc + 3) lv st (fv_set f a (.inr (ci, fs.set j v))) al k t) : fv_At y d mc ms Q pc lv (v :: .ref a :: st) f al k t := by
  intro p l e s m args below meth c D dA N A G H locs ls hR hS hO hl
  obtain ⟨hx, hb, hr, hlk, hml, hown, hts, ⟨hK, hNq⟩, hnm⟩ := id G
  obtain ⟨C, T, n, ty0, ⟨hc, hin, hty, hnam⟩, hk, hlink, hfin, hty1, hdecl⟩ := hp
  have hap := va_apart (own := y.1.cls) hts hin ty0 hty hnam hK hc
  obtain ⟨hA, r, h1, cell, q1, q2, q3, q4⟩ := hR a _ hf
  have hr2 : r = (C, T, n) := Option.some.inj (h1.symm.trans hc)
  subst hr2
  obtain ⟨hSl, hfc, kC, hkC, hkind⟩ := hK.1 ci _ hc
  obtain ⟨cf, kf, fi, fd, hi, hsl⟩ := hSl j hk
  have hlay := hts _ (hin _ (u_in_lay hk))
  unfold u_lay at hlay
  rw [if_pos hfin] at hlay
  have hst := (u_facts hfc hkC (u_lays hts hin hk) hi).1
  have hcf : m.cls = cf := by
    obtain ⟨_, _, c', _, _, _, -, -, hf', -, -, -, hown2, -⟩ := Cond.laysFinal_spec hlay
    have e1 : c' = cf := by have := hi.symm.trans hf'; simp at this; exact this.1.symm
    rw [hdecl rfl] at hown2
    rw [← e1]; exact Option.some.inj (hown.symm.trans hown2)
  have h6 := u_fits (v := fv_v N v) hfc hkC hkind (Or.inr hlay) hi ((hty j hk).trans (by rw [hty1])) (hn N) (hfit N)
  refine W.putFinK hx hb hown (hts _ hlink) hi hst hcf (hnm.trans hin2) (by rw [q2]; exact h6) q1 q3 (by rw [hsl]; exact k2_hasslot (q4 j hk)) rfl rfl hd fun H' e1 e2 e3 => ?_
  have hsl2 := hsl
  rw [hsl] at e1 ⊢
  refine kk p l e s m args below meth c D dA N A G H' _ ls (fv_Rset hR hf ⟨_, hc, t_OB.to (V := updV (vp_V (fs.map (fv_v N))) j (fv_v N v)) ⟨_, e1, q2, q3, t_set q4 hap hk (fv_v N v)⟩ (fun i _ => ?_)⟩ e3) (hS.put e2 e3 hA) (fv_Oset hO e2) hl
  rw [vp_updV_set (by rw [List.length_map]; exact hj)]
  show vp_V ((fs.map (fv_v N)).set j (fv_v N v)) i = vp_V ((fs.set j v).map (fv_v N)) i
  rw [List.map_set]
theorem fx_anew {n ta len idx : Nat} {C : String} (hd : decode y.2.1 pc = .ok (.anewarray idx, 3)) (hcl : Cond.classLink y.1.cls idx C ∈ fv_tbl) (hov : Cond.arrayOver (.object C) ∈ fv_tbl) (hta : ∀ dA : Nat → ClassId, (fv_tys dA)[ta]? = some (dA ta, .object C)) (hl : len ≤ 67108864) (hk : k + 1 ≤ mc) (ht : t + len ≤ ms)
    (kk : fv_At y d mc ms Q (pc + 3) lv (.ref n :: st) (fv_set f n (.inl (ta, len, .inr (.inr (.inr (.inr (fun _ => none))))))) (some (n + 1)) (k + 1) (t + len)) : fv_At y d mc ms Q pc lv (.int (nI len) :: st) f (some n) k t := by
  intro p l e s m args below meth c D dA N A G H locs ls hR hS hO hlv
  obtain ⟨hx, hb, hr, hlk, hml, hown, hts, ⟨hK, hNq⟩, hmn⟩ := id G
  have hz := (hO n rfl).1
  have hcl2 := nI_clamp (show len < 2 ^ 31 by omega)
  refine W.anew hx hb hown (hts _ hcl) (hts _ hov) rfl hd rfl (nI_nn (by omega)) (by rw [hcl2]; omega) hk (by rw [hcl2]; exact ht) fun cA kA comp f1 f2 f3 f4 => ?_
  obtain ⟨kA2, comp2, -, -, -, g4⟩ := (hK.2 ta _ (hta dA)).2
  have hc : cA = dA ta := Option.some.inj (f1.symm.trans g4)
  subst hc
  rw [hcl2]
  generalize hH1 : H.push ({ cls := dA ta, slots := Array.replicate len .null, vm := .none } : Cell) = H1
  have z1 : H1.size = H.size + 1 := by rw [← hH1, Array.size_push]
  have e1 : H1[H.size]? = some (arrV (dA ta) len (fun _ => .null)) := by rw [← hH1, Array.getElem?_push_size, ← arrV_new]
  have o1 : ∀ q : Nat, q < H.size → H1[q]? = H[q]? := fun q hq => by rw [← hH1, Array.getElem?_push, if_neg (Nat.ne_of_lt hq)]
  have kk2 := kk p l e s m args below meth c D dA N A G H1 locs ls (fv_Rpush hR hO (by
    show H1[N + n]? = some (vp_cell (dA ta) (len, .inr (.inr (.inr (.inr (fv_r N (fun _ => none)))))))
    rw [← hz, e1]
    rfl) o1) (fv_Spush hS (by omega) o1) (fv_Opush hO z1) hlv
  have e2 : H.size = N + n := hz
  rw [e2]
  exact kk2
theorem fx_aast {a b n ta ci j : Nat} {C : String} {T : u_T} {nf : Nat} {ty0 : Nat → FieldType} {g : Nat → Option Nat} {fs : List Value} {i : Int32} (hd : decode y.2.1 pc = .ok (.aastore, 1)) (hf : f a = some (.inl (ta, n, .inr (.inr (.inr (.inr g)))))) (hta : ∀ dA : Nat → ClassId, (fv_tys dA)[ta]? = some (dA ta, .object C)) (hv : f b = some (.inr (ci, fs))) (hc : fv_cls ci C T nf ty0) (hi : i = nI j) (hj : j < n) (hn : n < 2 ^ 31)
    (kk : fv_At y d mc ms Q (pc + 1) lv st (fv_set f a (.inl (ta, n, .inr (.inr (.inr (.inr (va_up g j (some b)))))))) al k t) : fv_At y d mc ms Q pc lv (.ref b :: .int i :: .ref a :: st) f al k t := by
  intro p l e s m args below meth c D dA N A G H locs ls hR hS hO hl
  obtain ⟨hx, hb, hr, hlk, hml, hown, hts, ⟨hK, hNq⟩, hnm⟩ := id G
  subst hi
  obtain ⟨hA, h1⟩ := hR a _ hf
  obtain ⟨hA2, r', hr', cellV, g1, g2, g3, -⟩ := hR b _ hv
  have hcls := (hK.1 ci _ hc.1).2
  obtain ⟨kA, comp, k1, k2, k3, -⟩ := (hK.2 ta _ (hta dA)).2
  have hcomp : comp = D.1 ci := Option.some.inj (k3.symm.trans hcls.1)
  subst hcomp
  obtain ⟨kC, hkC, -⟩ := hcls.2
  have hj2 : (nI j).toNatClampNeg = j := nI_clamp (by omega)
  refine W.aast hx hb h1 (fun q h => by cases h) (fun h => by cases h) k1 k2 rfl hkC ⟨nI_nn (by omega), by show _ < (arrV _ _ _).slots.size; rw [arrV_size, hj2]; exact hj⟩ g1 (fun q h => by rw [g3] at h; cases h) (by rw [g2]; exact hkC) (by rw [g2]; exact va_assign hcls) rfl rfl hd fun H1 e1 z oq => ?_
  refine kk p l e s m args below meth c D dA N A G H1 _ ls (fv_Rset hR hf ?_ oq) (hS.put z oq hA) (fv_Oset hO z) hl
  rw [hj2] at e1
  show H1[N + a]? = some (vp_cell _ _)
  rw [e1]
  show some ((vp_cell (dA ta) (n, .inr (.inr (.inr (.inr (fv_r N g)))))).setSlot j (.ref (N + b))) = some (vp_cell (dA ta) (n, .inr (.inr (.inr (.inr (fv_r N (va_up g j (some b))))))))
  rw [vp_cell_q, vp_cell_q, arrV_store]
  congr 2
  funext q
  by_cases hq : q = j
  · subst hq
    simp [updV, va_up, va_rf, fv_r]
  · simp [updV, va_up, hq, fv_r]
theorem fx_objI {a idx : Nat} (hd : decode y.2.1 pc = .ok (.invokespecial idx, 3)) (h1 : Cond.methodLink y.1.cls idx Lib.objectInit ∈ fv_tbl) (h2 : Cond.instanceMethod Lib.objectInit ∈ fv_tbl) (h3 : Cond.code Lib.objectInit ⟨#[0xb1]⟩ 1 none ∈ fv_tbl) (hd1 : 1 ≤ d) (hcat : (st.map fun v => v.category).sum ≤ 8)
    (kk : fv_At y d mc ms Q (pc + 3) lv st f al k t) : fv_At y d mc ms Q pc lv (.ref a :: st) f al k t := by
  intro p l e s m args below meth c D dA N A G H locs ls hR hS hO hl
  obtain ⟨hx, hb, hr, hlk, hml, hown, hts, ⟨hK, hNq⟩, hnm⟩ := id G
  refine W.objInit hx hb hown (hts _ h1) (hts _ h2) (hts _ h3) rfl (hl.1.trans hml.symm) rfl hd hd1 ?_ (kk p l e s m args below meth c D dA N A G H locs ls hR hS hO hl)
  rw [fv_catS]
  show 2 * 0 + (st.map fun v => v.category).sum + 12 ≤ 64 * d
  omega
end FVM
