/-! ===== rows that read and write cells ===== -/
/-- a class of which there are objects: its place among fv_cl, name, fields, types -/
def fv_cls (ci : Nat) (C : String) (T : u_T) (n : Nat) (ty0 : Nat → FieldType) : Prop := fv_cl[ci]? = some (C, T, n) ∧ (∀ w ∈ u_ws C T n, w ∈ fv_tbl) ∧ (∀ k, k < n → parseFieldDescriptor (T k).2.2.1 = some (ty0 k)) ∧ ∀ a, a < n → ∀ b, b < n → a ≠ b → (T a).2.1 ≠ (T b).2.1
theorem fv_c0 : fv_cls 0 RX0 TX0 3 tyX0 := ⟨rfl, iX0, tyX0_ok, nmX0⟩
theorem fv_c1 : fv_cls 1 RX2 TX2 8 tyX2 := ⟨rfl, iX2, tyX2_ok, nmX2⟩
theorem fv_c2 : fv_cls 2 RX4 TX4 5 tyX4 := ⟨rfl, iX4, tyX4_ok, nmX4⟩
theorem fv_c3 : fv_cls 3 RX5 TX5 2 tyX5 := ⟨rfl, iX5, tyX5_ok, nmX5⟩
theorem fv_c4 : fv_cls 4 RX7 TX7 4 tyX7 := ⟨rfl, iX7, tyX7_ok, nmX7⟩
theorem fv_c5 : fv_cls 5 RX8 TX8 5 tyX8 := ⟨rfl, iX8, tyX8_ok, nmX8⟩
theorem fv_c6 : fv_cls 6 RX9 TX9 3 tyX9 := ⟨rfl, iX9, tyX9_ok, nmX9⟩
theorem fv_c7 : fv_cls 7 RX10 TX10 4 tyX10 := ⟨rfl, iX10, tyX10_ok, nmX10⟩
theorem fv_c8 : fv_cls 8 RX11 TX11 38 tyX11 := ⟨rfl, iX11, tyX11_ok, nmX11⟩
/-- a field as a class's pool names it: entry idx of own is field k, final or not, of type ty, of class ci -/
def fv_fd (own : String) (idx ci k : Nat) (fin : Bool) (ty : FieldType) : Prop := ∃ (C : String) (T : u_T) (n : Nat) (ty0 : Nat → FieldType), fv_cls ci C T n ty0 ∧ k < n ∧ Cond.fieldLink own idx (T k).1 (T k).2.1 (T k).2.2.1 ∈ fv_tbl ∧ (T k).2.2.2 = fin ∧ ty0 k = ty ∧ (fin = true → (T k).1 = own)
theorem fv_R1 {D : va_G} {dA : Nat → ClassId} {N : Nat} {A : Nat → Prop} {f : fv_F} {H : Heap} {i : Nat} {c : fv_C} (hR : fv_R D dA N A f H) (h : f i = some c) : va_P D fv_cl [(N + i, fv_e N dA c)] H := by
  intro k q hk
  match k, hk with
  | 0, hk => cases hk; exact (hR i c h).2
  | k + 1, hk => simp at hk
theorem fv_Rset {D : va_G} {dA : Nat → ClassId} {N : Nat} {A : Nat → Prop} {f : fv_F} {H H1 : Heap} {i : Nat} {c c' : fv_C} (hR : fv_R D dA N A f H) (h : f i = some c) (h1 : va_at D fv_cl (N + i, fv_e N dA c') H1) (oq : ∀ q : Nat, q ≠ N + i → H1[q]? = H[q]?) : fv_R D dA N A (fv_set f i c') H1 := by
  intro j b hj
  by_cases e : j = i
  · subst e
    rw [fv_set_self] at hj
    cases hj
    exact ⟨(hR j c h).1, h1⟩
  · rw [fv_set_ne f c' e] at hj
    obtain ⟨g1, g2⟩ := hR j b hj
    exact ⟨g1, g2.kept (oq (N + j) (by omega))⟩
theorem fv_Oset {N : Nat} {A : Nat → Prop} {al : Option Nat} {H H1 : Heap} (hO : fv_O N A al H) (z : H1.size = H.size) : fv_O N A al H1 := fun n h => ⟨by rw [z]; exact (hO n h).1, (hO n h).2⟩
theorem fv_rfr (N : Nat) (g : Nat → Option Nat) (j : Nat) : va_rf (fv_r N g j) = fv_v N (va_rf (g j)) := by
  unfold fv_r
  cases g j <;> rfl
theorem fv_Op {N : Nat} {A : Nat → Prop} {al : Option Nat} {H : Heap} (hO : fv_O N A al H) : ∀ n, al = some n → H.size = N + n := fun n h => (hO n h).1
section FVH
variable {y : fv_Y} {d mc ms : Nat} {Q : Option Value → fv_F → Option Nat → Prop} {pc : Nat} {lv : fv_L} {st : List Value} {f : fv_F} {al : Option Nat} {k t : Nat}
theorem fx_getf {a idx ci j : Nat} {fin : Bool} {ty : FieldType} {fs : List Value} {v : Value} (hd : decode y.2.1 pc = .ok (.getfield idx, 3)) (hp : fv_fd y.1.cls idx ci j fin ty) (hf : f a = some (.inr (ci, fs))) (hv : fs[j]? = some v) (kk : fv_At y d mc ms Q (pc + 3) lv (v :: st) f al k t) : fv_At y d mc ms Q pc lv (.ref a :: st) f al k t := by
  intro p l e s m args below meth c D dA N A G H locs ls hR hS hO hl
  obtain ⟨hx, hb, hr, hlk, hml, hown, hts, ⟨hK, hNq⟩, hnm⟩ := id G
  obtain ⟨C, T, n, ty0, ⟨hc, hin, -, -⟩, hk, hlink, -, -⟩ := hp
  exact va_get hx hb hts hin hown hK (fv_R1 hR hf) 0 rfl hc j hk (hts _ hlink) (fun _ h => h) (v := fv_v N v) (by rw [List.getElem?_map, hv]; rfl) hd (kk p l e s m args below meth c D dA N A G H locs ls hR hS hO hl)
theorem fx_putf {a idx ci j : Nat} {ty : FieldType} {fs : List Value} {v : Value} (hd : decode y.2.1 pc = .ok (.putfield idx, 3)) (hp : fv_fd y.1.cls idx ci j false ty) (hf : f a = some (.inr (ci, fs))) (hn : ∀ N, narrow ty (fv_v N v) = fv_v N v) (hfit : ∀ N, fits ty (fv_v N v) = true) (hj : j < fs.length)
    (kk : fv_At y d mc ms Q (pc + 3) lv st (fv_set f a (.inr (ci, fs.set j v))) al k t) : fv_At y d mc ms Q pc lv (v :: .ref a :: st) f al k t := by
  intro p l e s m args below meth c D dA N A G H locs ls hR hS hO hl
  obtain ⟨hx, hb, hr, hlk, hml, hown, hts, ⟨hK, hNq⟩, hnm⟩ := id G
  obtain ⟨C, T, n, ty0, ⟨hc, hin, hty, hnam⟩, hk, hlink, hfin, hty1, -⟩ := hp
  have hap := va_apart (own := y.1.cls) hts hin ty0 hty hnam hK hc
  obtain ⟨hA, r, h1, cell, q1, q2, q3, q4⟩ := hR a _ hf
  have hr2 : r = (C, T, n) := Option.some.inj (h1.symm.trans hc)
  subst hr2
  obtain ⟨hSl, hfc, kC, hkC, hkind⟩ := hK.1 ci _ hc
  obtain ⟨cf, kf, fi, fd, hi, hsl⟩ := hSl j hk
  have hlay := hts _ (hin _ (u_in_lay hk))
  unfold u_lay at hlay
  rw [if_neg (by rw [hfin]; decide)] at hlay
  have hst := (u_facts hfc hkC (u_lays hts hin hk) hi).1
  have h6 := u_store (v := fv_v N v) hfc hkC hkind hlay hi ((hty j hk).trans (by rw [hty1])) (hn N) (hfit N)
  refine W.putK hx hb (f := fd) ⟨hown, hts _ hlink, ⟨_, _, _, hi⟩, hst⟩ (by rw [q2]; exact h6) q1 q3 (by rw [hsl]; exact k2_hasslot (q4 j hk)) rfl rfl hd fun H' e1 e2 e3 => ?_
  rw [hsl] at e1 ⊢
  refine kk p l e s m args below meth c D dA N A G H' _ ls (fv_Rset hR hf ⟨_, hc, t_OB.to (V := updV (vp_V (fs.map (fv_v N))) j (fv_v N v)) ⟨_, e1, q2, q3, t_set q4 hap hk (fv_v N v)⟩ (fun i _ => ?_)⟩ e3) (hS.put e2 e3 hA) (fv_Oset hO e2) hl
  rw [vp_updV_set (by rw [List.length_map]; exact hj)]
  show vp_V ((fs.map (fv_v N)).set j (fv_v N v)) i = vp_V ((fs.set j v).map (fv_v N)) i
  rw [List.map_set]
theorem fx_iald {a n : Nat} {g : Nat → Int32} {i : Int32} (j : Nat) (hd : decode y.2.1 pc = .ok (.iaload, 1)) (hf : f a = some (.inl (0, n, .inl g))) (hi : i = nI j) (hj : j < n) (hn : n < 2 ^ 31) (kk : fv_At y d mc ms Q (pc + 1) lv (.int (g j) :: st) f al k t) : fv_At y d mc ms Q pc lv (.int i :: .ref a :: st) f al k t := by
  intro p l e s m args below meth c D dA N A G H locs ls hR hS hO hl
  obtain ⟨hx, hb, hr, hlk, hml, hown, hts, ⟨hK, hNq⟩, hnm⟩ := id G
  subst hi
  refine va_iald (n := n) (f := g) hx hb hK (fv_R1 hR hf) 0 0 rfl rfl (vp_in_nI hj hn) hd ?_
  rw [nI_clamp (by omega)]
  exact kk p l e s m args below meth c D dA N A G H locs ls hR hS hO hl
theorem fx_zald {a n : Nat} {g : Nat → Int32} {i : Int32} (j : Nat) (hd : decode y.2.1 pc = .ok (.baload, 1)) (hf : f a = some (.inl (2, n, .inl g))) (hi : i = nI j) (hj : j < n) (hn : n < 2 ^ 31) (kk : fv_At y d mc ms Q (pc + 1) lv (.int (g j) :: st) f al k t) : fv_At y d mc ms Q pc lv (.int i :: .ref a :: st) f al k t := by
  intro p l e s m args below meth c D dA N A G H locs ls hR hS hO hl
  obtain ⟨hx, hb, hr, hlk, hml, hown, hts, ⟨hK, hNq⟩, hnm⟩ := id G
  subst hi
  refine va_zald (n := n) (f := g) hx hb hK (fv_R1 hR hf) 0 2 rfl rfl (vp_in_nI hj hn) hd ?_
  rw [nI_clamp (by omega)]
  exact kk p l e s m args below meth c D dA N A G H locs ls hR hS hO hl
theorem fx_lald {a n : Nat} {g : Nat → Int64} {i : Int32} (j : Nat) (hd : decode y.2.1 pc = .ok (.laload, 1)) (hf : f a = some (.inl (1, n, .inr (.inl g)))) (hi : i = nI j) (hj : j < n) (hn : n < 2 ^ 31) (kk : fv_At y d mc ms Q (pc + 1) lv (.long (g j) :: st) f al k t) : fv_At y d mc ms Q pc lv (.int i :: .ref a :: st) f al k t := by
  intro p l e s m args below meth c D dA N A G H locs ls hR hS hO hl
  obtain ⟨hx, hb, hr, hlk, hml, hown, hts, ⟨hK, hNq⟩, hnm⟩ := id G
  subst hi
  refine va_lald (n := n) (f := g) hx hb hK (fv_R1 hR hf) 0 1 rfl rfl (vp_in_nI hj hn) hd ?_
  rw [nI_clamp (by omega)]
  exact kk p l e s m args below meth c D dA N A G H locs ls hR hS hO hl
theorem fx_aald {a n ta : Nat} {g : Nat → Option Nat} {i : Int32} (j : Nat) (hd : decode y.2.1 pc = .ok (.aaload, 1)) (hf : f a = some (.inl (ta, n, .inr (.inr (.inr (.inr g)))))) (hta : ta = 3 ∨ ta = 4 ∨ ta = 5) (hi : i = nI j) (hj : j < n) (hn : n < 2 ^ 31) (kk : fv_At y d mc ms Q (pc + 1) lv (va_rf (g j) :: st) f al k t) : fv_At y d mc ms Q pc lv (.int i :: .ref a :: st) f al k t := by
  intro p l e s m args below meth c D dA N A G H locs ls hR hS hO hl
  obtain ⟨hx, hb, hr, hlk, hml, hown, hts, ⟨hK, hNq⟩, hnm⟩ := id G
  subst hi
  obtain ⟨ty, ht, hty⟩ : ∃ ty, (fv_tys dA)[ta]? = some (dA ta, ty) ∧ ty.isReference = true := by
    rcases hta with h | h | h <;> subst h <;> exact ⟨_, rfl, rfl⟩
  have hin := vp_in_nI hj hn
  refine W.aald (v := va_rf (fv_r N g j)) (ty := ty) hx hb (fv_R1 hR hf 0 _ rfl) ((hK.2 ta _ ht).1 n (fun j => va_rf (fv_r N g j))) hty (fun q => by cases q) (by show ¬ (_ < (0 : Int32) ∨ (arrV _ _ _).slots.size ≤ _); rw [arrV_size]; exact hin) (by show (arrV _ _ _).slots[_]? = _; rw [nI_clamp (by omega)]; exact arrV_read _ _ hj) rfl rfl hd ?_
  rw [fv_rfr]
  exact kk p l e s m args below meth c D dA N A G H locs ls hR hS hO hl
theorem fx_alen {a ta : Nat} {b : vp_A} {v : Int32} (hd : decode y.2.1 pc = .ok (.arraylength, 1)) (hf : f a = some (.inl (ta, b))) (hta : ta < 6) (hv : Int32.ofNat b.1 = v) (kk : fv_At y d mc ms Q (pc + 1) lv (.int v :: st) f al k t) : fv_At y d mc ms Q pc lv (.ref a :: st) f al k t := by
  intro p l e s m args below meth c D dA N A G H locs ls hR hS hO hl
  obtain ⟨hx, hb, hr, hlk, hml, hown, hts, ⟨hK, hNq⟩, hnm⟩ := id G
  obtain ⟨ty, ht⟩ : ∃ ty, (fv_tys dA)[ta]? = some (dA ta, ty) := by
    rcases (show ta = 0 ∨ ta = 1 ∨ ta = 2 ∨ ta = 3 ∨ ta = 4 ∨ ta = 5 by omega) with h | h | h | h | h | h <;> subst h <;> exact ⟨_, rfl⟩
  have hb1 : (fv_a N b).1 = b.1 := by
    obtain ⟨n, g | g | g | g | g⟩ := b <;> rfl
  exact va_alen hx hb hK (fv_R1 hR hf) 0 ta rfl ht (by rw [hb1]; exact hv) hd (kk p l e s m args below meth c D dA N A G H locs ls hR hS hO hl)
end FVH
