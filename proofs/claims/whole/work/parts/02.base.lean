/-! ===== the world of one object tree, by places: a cell's address is the base and its place ===== -/
abbrev fv_C : Type := (Nat × vp_A) ⊕ (Nat × List Value)
abbrev fv_F : Type := Nat → Option fv_C
abbrev fv_L : Type := List (Nat × Value)
/-- a method: its name, bytes, locals, type -/
abbrev fv_Y : Type := MethodName × ByteArray × Nat × Option FieldType
def fv_v (N : Nat) : Value → Value
  | .ref a => .ref (N + a)
  | v => v
def fv_r (N : Nat) (f : Nat → Option Nat) : Nat → Option Nat := fun j => (f j).map (N + ·)
def fv_a (N : Nat) (a : vp_A) : vp_A := match a.2 with
  | .inr (.inr (.inr (.inr f))) => (a.1, .inr (.inr (.inr (.inr (fv_r N f)))))
  | _ => a
def fv_e (N : Nat) (dA : Nat → ClassId) : fv_C → va_E
  | .inl x => .inl (dA x.1, fv_a N x.2)
  | .inr x => .inr (x.1, x.2.map (fv_v N))
def fv_set (f : fv_F) (i : Nat) (c : fv_C) : fv_F := fun j => if j = i then some c else f j
theorem fv_set_self (f : fv_F) (i : Nat) (c : fv_C) : fv_set f i c i = some c := if_pos rfl
theorem fv_set_ne (f : fv_F) {i j : Nat} (c : fv_C) (h : j ≠ i) : fv_set f i c j = f j := if_neg h
def fv_tys (dA : Nat → ClassId) : List (ClassId × FieldType) := [(dA 0, .int), (dA 1, .long), (dA 2, .boolean), (dA 3, .object "MeetHouse$Polynomial"), (dA 4, .object "MeetHouse$Line"), (dA 5, .array .int)]
/-- the pools' entries that name private methods of nest mates -/
def fv_nq : List (String × Nat × MethodName) := [("MeetHouse", 17, yX0_init), ("MeetHouse$Algebra", 11, yX8_init), ("MeetHouse$Pot", 22, yX7_init), ("MeetHouse$Algebra", 20, yX7_init), ("MeetHouse", 24, yX2_init), ("MeetHouse$Conditions", 11, yX4_init), ("MeetHouse$Space", 17, yX5_init), ("MeetHouse", 36, yX7_init), ("MeetHouse", 54, yX6_ofLength), ("MeetHouse$Pot", 68, yX10_isBeyond), ("MeetHouse$Algebra", 124, yX10_refusal), ("MeetHouse$Conditions", 42, yX1_gather)]
def fv_K (D : va_G) (dA : Nat → ClassId) (U : State) : Prop := va_K D fv_cl (fv_tys dA) U ∧ ∀ q ∈ fv_nq, va_Nw (.methodLinkNest q.1 q.2.1 q.2.2 "MeetHouse") U
theorem fv_Kw {D : va_G} {dA : Nat → ClassId} {s U : State} (hW : s.WarmedH U.vm) (h : fv_K D dA s) : fv_K D dA U := ⟨va_K.moved hW.alike h.1, fun q hq => va_Nw.warmM hW (h.2 q hq)⟩
def fv_R (D : va_G) (dA : Nat → ClassId) (N : Nat) (A : Nat → Prop) (f : fv_F) (H : Heap) : Prop := ∀ (i : Nat) (c : fv_C), f i = some c → A (N + i) ∧ va_at D fv_cl (N + i, fv_e N dA c) H
/-- cells may be made: the next place -/
def fv_O (N : Nat) (A : Nat → Prop) (al : Option Nat) (H : Heap) : Prop := ∀ n, al = some n → H.size = N + n ∧ ∀ q, N ≤ q → A q
abbrev fv_rm (d mc ms : Nat) : Room := { frames := d, cells := mc, slots := ms, locals := 64 * d }
def fv_ws (y : fv_Y) : List Cond := .code y.1 y.2.1 y.2.2.1 y.2.2.2 :: fv_tbl
def fv_Pc (D : va_G) (dA : Nat → ClassId) (N : Nat) (A : Nat → Prop) (as : List Value) (f : fv_F) (al : Option Nat) : Array Value → State → Prop :=
  va_Pc (as.map (fv_v N)) (fun U => fv_R D dA N A f U.heap ∧ fv_K D dA U ∧ fv_O N A al U.heap)
def fv_Qc (D : va_G) (dA : Nat → ClassId) (N : Nat) (A : Nat → Prop) (Q : Option Value → fv_F → Option Nat → Prop) : Array Value → State → Outcome → State → Prop := fun _ st o t =>
  ∃ (r : Option Value) (f : fv_F) (al : Option Nat), o = .returned (r.map (fv_v N)) ∧ Q r f al ∧ fv_R D dA N A f t.heap ∧ fv_O N A al t.heap ∧ va_F A st t
/-- a method's contract: from args and f it comes to an answer, cells and a next place with Q; depth d; mc cells of ms slots are made -/
def fv_M (y : fv_Y) (d mc ms : Nat) (as : List Value) (f : fv_F) (al : Option Nat) (Q : Option Value → fv_F → Option Nat → Prop) : Prop :=
  ∀ (l : Launch) (D : va_G) (dA : Nat → ClassId) (N : Nat) (A : Nat → Prop), Met l y.1 (fv_ws y) (fv_rm d mc ms) (fv_Pc D dA N A as f al) (fv_Qc D dA N A Q) mc ms A
