/-! ===== rows over small numbers ===== -/
section FN
variable {y : fv_Y} {d mc ms : Nat} {Q : Option Value → fv_F → Option Nat → Prop} {pc : Nat} {lv : fv_L} {st : List Value} {f : fv_F} {al : Option Nat} {k t : Nat}
/-- fewer locals, by their places -/
theorem fn_sub {lv' : fv_L} (ks : List Nat) (hs : ks.filterMap (fun i => lv[i]?) = lv') (kk : fv_At y d mc ms Q pc lv' st f al k t) : fv_At y d mc ms Q pc lv st f al k t := by
  refine fx_sub (fun q hq => ?_) kk
  rw [← hs] at hq
  obtain ⟨i, -, hi⟩ := List.mem_filterMap.mp hq
  exact List.mem_of_getElem? hi
/-- a number in another form -/
theorem fn_to {x z : Int32} (h : x = z) (kk : fv_At y d mc ms Q pc lv (.int z :: st) f al k t) : fv_At y d mc ms Q pc lv (.int x :: st) f al k t := h ▸ kk
theorem fn_toL {x z : Int64} (h : x = z) (kk : fv_At y d mc ms Q pc lv (.long z :: st) f al k t) : fv_At y d mc ms Q pc lv (.long x :: st) f al k t := h ▸ kk
theorem fn_iadd {a b : Nat} (hd : decode y.2.1 pc = .ok (.iadd, 1)) (kk : fv_At y d mc ms Q (pc + 1) lv (.int (nI (a + b)) :: st) f al k t) : fv_At y d mc ms Q pc lv (.int (nI b) :: .int (nI a) :: st) f al k t :=
  fx_iadd hd (fn_to (nI_add a b) kk)
theorem fn_isub {a b : Nat} (hd : decode y.2.1 pc = .ok (.isub, 1)) (h : b ≤ a) (kk : fv_At y d mc ms Q (pc + 1) lv (.int (nI (a - b)) :: st) f al k t) : fv_At y d mc ms Q pc lv (.int (nI b) :: .int (nI a) :: st) f al k t :=
  fx_isub hd (fn_to (pk_sub h) kk)
theorem fn_imul {a b : Nat} (hd : decode y.2.1 pc = .ok (.imul, 1)) (kk : fv_At y d mc ms Q (pc + 1) lv (.int (nI (a * b)) :: st) f al k t) : fv_At y d mc ms Q pc lv (.int (nI b) :: .int (nI a) :: st) f al k t :=
  fx_imul hd (fn_to (pk_mul a b) kk)
theorem fn_idiv {a b : Nat} (hd : decode y.2.1 pc = .ok (.idiv, 1)) (h0 : 0 < b) (ha : a < 2147483648) (hb : b < 2147483648) (kk : fv_At y d mc ms Q (pc + 1) lv (.int (nI (a / b)) :: st) f al k t) : fv_At y d mc ms Q pc lv (.int (nI b) :: .int (nI a) :: st) f al k t :=
  fx_idiv hd (nI_ne0 h0 hb) (fn_to (pk_div ha h0 hb) kk)
theorem fn_irem {a b : Nat} (hd : decode y.2.1 pc = .ok (.irem, 1)) (h0 : 0 < b) (ha : a < 2147483648) (hb : b < 2147483648) (kk : fv_At y d mc ms Q (pc + 1) lv (.int (nI (a % b)) :: st) f al k t) : fv_At y d mc ms Q pc lv (.int (nI b) :: .int (nI a) :: st) f al k t :=
  fx_irem hd (nI_ne0 h0 hb) (fn_to (pk_rem ha h0 hb) kk)
theorem fn_iaddZ {a b : Int} (hd : decode y.2.1 pc = .ok (.iadd, 1)) (kk : fv_At y d mc ms Q (pc + 1) lv (.int (iI (a + b)) :: st) f al k t) : fv_At y d mc ms Q pc lv (.int (iI b) :: .int (iI a) :: st) f al k t :=
  fx_iadd hd (fn_to (iI_add a b) kk)
theorem fn_isubZ {a b : Int} (hd : decode y.2.1 pc = .ok (.isub, 1)) (kk : fv_At y d mc ms Q (pc + 1) lv (.int (iI (a - b)) :: st) f al k t) : fv_At y d mc ms Q pc lv (.int (iI b) :: .int (iI a) :: st) f al k t :=
  fx_isub hd (fn_to (iI_sub a b) kk)
theorem fn_imulZ {a b : Int} (hd : decode y.2.1 pc = .ok (.imul, 1)) (kk : fv_At y d mc ms Q (pc + 1) lv (.int (iI (a * b)) :: st) f al k t) : fv_At y d mc ms Q pc lv (.int (iI b) :: .int (iI a) :: st) f al k t :=
  fx_imul hd (fn_to (iI_mul a b) kk)
theorem fn_iinc {i a : Nat} {n : Int} {c : Nat} {lv2 : fv_L} (hd : decode y.2.1 pc = .ok (.iinc i n, 3)) (hc : Int32.ofInt n = nI c) (hg : fv_g lv i = some (.int (nI a))) (hn : i < y.2.2.1) (hp : fv_p1 lv i (.int (nI (a + c))) = lv2) (kk : fv_At y d mc ms Q (pc + 3) lv2 st f al k t) : fv_At y d mc ms Q pc lv st f al k t :=
  fx_iinc hd hg (by rw [hc, nI_add]) hn hp kk
theorem fn_idec {i a : Nat} {n : Int} {c : Nat} {lv2 : fv_L} (hd : decode y.2.1 pc = .ok (.iinc i n, 3)) (hc : Int32.ofInt n = 0 - nI c) (h : c ≤ a) (hg : fv_g lv i = some (.int (nI a))) (hn : i < y.2.2.1) (hp : fv_p1 lv i (.int (nI (a - c))) = lv2) (kk : fv_At y d mc ms Q (pc + 3) lv2 st f al k t) : fv_At y d mc ms Q pc lv st f al k t :=
  fx_iinc hd hg (by rw [hc, ← pk_sub h, Int32.zero_sub, ← Int32.sub_eq_add_neg]) hn hp kk
theorem fn_iincZ {i : Nat} {a c : Int} {lv2 : fv_L} (hd : decode y.2.1 pc = .ok (.iinc i c, 3)) (hg : fv_g lv i = some (.int (iI a))) (hn : i < y.2.2.1) (hp : fv_p1 lv i (.int (iI (a + c))) = lv2) (kk : fv_At y d mc ms Q (pc + 3) lv2 st f al k t) : fv_At y d mc ms Q pc lv st f al k t :=
  fx_iinc hd hg (iI_add a c) hn hp kk
theorem fn_icmp_eq {a b : Nat} {off : Int} {tgt : Nat} (hd : decode y.2.1 pc = .ok (.if_icmp .eq off, 3)) (ht : (pc : Int) + off = (tgt : Int)) (ha : a < 2147483648) (hb : b < 2147483648) (kt : a = b → fv_At y d mc ms Q tgt lv st f al k t) (kf : a ≠ b → fv_At y d mc ms Q (pc + 3) lv st f al k t) : fv_At y d mc ms Q pc lv (.int (nI b) :: .int (nI a) :: st) f al k t :=
  fx_icmp_eq hd ht (fun h => kt ((nI_eq ha hb).mp h)) (fun h => kf (fun e => h ((nI_eq ha hb).mpr e)))
theorem fn_icmp_eqZ {a b : Int} {off : Int} {tgt : Nat} (hd : decode y.2.1 pc = .ok (.if_icmp .eq off, 3)) (ht : (pc : Int) + off = (tgt : Int)) (a1 : -2147483648 ≤ a) (a2 : a < 2147483648) (b1 : -2147483648 ≤ b) (b2 : b < 2147483648) (kt : a = b → fv_At y d mc ms Q tgt lv st f al k t) (kf : a ≠ b → fv_At y d mc ms Q (pc + 3) lv st f al k t) : fv_At y d mc ms Q pc lv (.int (iI b) :: .int (iI a) :: st) f al k t :=
  fx_icmp_eq hd ht (fun h => kt ((iI_eq a1 a2 b1 b2).mp h)) (fun h => kf (fun e => h ((iI_eq a1 a2 b1 b2).mpr e)))
theorem fn_icmp_ne {a b : Nat} {off : Int} {tgt : Nat} (hd : decode y.2.1 pc = .ok (.if_icmp .ne off, 3)) (ht : (pc : Int) + off = (tgt : Int)) (ha : a < 2147483648) (hb : b < 2147483648) (kt : a ≠ b → fv_At y d mc ms Q tgt lv st f al k t) (kf : a = b → fv_At y d mc ms Q (pc + 3) lv st f al k t) : fv_At y d mc ms Q pc lv (.int (nI b) :: .int (nI a) :: st) f al k t :=
  fx_icmp_ne hd ht (fun h => kt (fun e => h ((nI_eq ha hb).mpr e))) (fun h => kf ((nI_eq ha hb).mp h))
theorem fn_icmp_neZ {a b : Int} {off : Int} {tgt : Nat} (hd : decode y.2.1 pc = .ok (.if_icmp .ne off, 3)) (ht : (pc : Int) + off = (tgt : Int)) (a1 : -2147483648 ≤ a) (a2 : a < 2147483648) (b1 : -2147483648 ≤ b) (b2 : b < 2147483648) (kt : a ≠ b → fv_At y d mc ms Q tgt lv st f al k t) (kf : a = b → fv_At y d mc ms Q (pc + 3) lv st f al k t) : fv_At y d mc ms Q pc lv (.int (iI b) :: .int (iI a) :: st) f al k t :=
  fx_icmp_ne hd ht (fun h => kt (fun e => h ((iI_eq a1 a2 b1 b2).mpr e))) (fun h => kf ((iI_eq a1 a2 b1 b2).mp h))
theorem fn_icmp_lt {a b : Nat} {off : Int} {tgt : Nat} (hd : decode y.2.1 pc = .ok (.if_icmp .lt off, 3)) (ht : (pc : Int) + off = (tgt : Int)) (ha : a < 2147483648) (hb : b < 2147483648) (kt : a < b → fv_At y d mc ms Q tgt lv st f al k t) (kf : b ≤ a → fv_At y d mc ms Q (pc + 3) lv st f al k t) : fv_At y d mc ms Q pc lv (.int (nI b) :: .int (nI a) :: st) f al k t :=
  fx_icmp_lt hd ht (fun h => kt ((nI_ltI ha hb).mp h)) (fun h => kf (by have := mt (nI_ltI ha hb).mpr h; omega))
theorem fn_icmp_ltZ {a b : Int} {off : Int} {tgt : Nat} (hd : decode y.2.1 pc = .ok (.if_icmp .lt off, 3)) (ht : (pc : Int) + off = (tgt : Int)) (a1 : -2147483648 ≤ a) (a2 : a < 2147483648) (b1 : -2147483648 ≤ b) (b2 : b < 2147483648) (kt : a < b → fv_At y d mc ms Q tgt lv st f al k t) (kf : b ≤ a → fv_At y d mc ms Q (pc + 3) lv st f al k t) : fv_At y d mc ms Q pc lv (.int (iI b) :: .int (iI a) :: st) f al k t :=
  fx_icmp_lt hd ht (fun h => kt ((iI_lt a1 a2 b1 b2).mp h)) (fun h => kf (by have := mt (iI_lt a1 a2 b1 b2).mpr h; omega))
theorem fn_icmp_ge {a b : Nat} {off : Int} {tgt : Nat} (hd : decode y.2.1 pc = .ok (.if_icmp .ge off, 3)) (ht : (pc : Int) + off = (tgt : Int)) (ha : a < 2147483648) (hb : b < 2147483648) (kt : b ≤ a → fv_At y d mc ms Q tgt lv st f al k t) (kf : a < b → fv_At y d mc ms Q (pc + 3) lv st f al k t) : fv_At y d mc ms Q pc lv (.int (nI b) :: .int (nI a) :: st) f al k t :=
  fx_icmp_ge hd ht (fun h => kt ((nI_leI hb ha).mp h)) (fun h => kf (by have := mt (nI_leI hb ha).mpr h; omega))
theorem fn_icmp_geZ {a b : Int} {off : Int} {tgt : Nat} (hd : decode y.2.1 pc = .ok (.if_icmp .ge off, 3)) (ht : (pc : Int) + off = (tgt : Int)) (a1 : -2147483648 ≤ a) (a2 : a < 2147483648) (b1 : -2147483648 ≤ b) (b2 : b < 2147483648) (kt : b ≤ a → fv_At y d mc ms Q tgt lv st f al k t) (kf : a < b → fv_At y d mc ms Q (pc + 3) lv st f al k t) : fv_At y d mc ms Q pc lv (.int (iI b) :: .int (iI a) :: st) f al k t :=
  fx_icmp_ge hd ht (fun h => kt ((iI_le b1 b2 a1 a2).mp h)) (fun h => kf (by have := mt (iI_le b1 b2 a1 a2).mpr h; omega))
theorem fn_icmp_gt {a b : Nat} {off : Int} {tgt : Nat} (hd : decode y.2.1 pc = .ok (.if_icmp .gt off, 3)) (ht : (pc : Int) + off = (tgt : Int)) (ha : a < 2147483648) (hb : b < 2147483648) (kt : b < a → fv_At y d mc ms Q tgt lv st f al k t) (kf : a ≤ b → fv_At y d mc ms Q (pc + 3) lv st f al k t) : fv_At y d mc ms Q pc lv (.int (nI b) :: .int (nI a) :: st) f al k t :=
  fx_icmp_gt hd ht (fun h => kt ((nI_ltI hb ha).mp h)) (fun h => kf (by have := mt (nI_ltI hb ha).mpr h; omega))
theorem fn_icmp_gtZ {a b : Int} {off : Int} {tgt : Nat} (hd : decode y.2.1 pc = .ok (.if_icmp .gt off, 3)) (ht : (pc : Int) + off = (tgt : Int)) (a1 : -2147483648 ≤ a) (a2 : a < 2147483648) (b1 : -2147483648 ≤ b) (b2 : b < 2147483648) (kt : b < a → fv_At y d mc ms Q tgt lv st f al k t) (kf : a ≤ b → fv_At y d mc ms Q (pc + 3) lv st f al k t) : fv_At y d mc ms Q pc lv (.int (iI b) :: .int (iI a) :: st) f al k t :=
  fx_icmp_gt hd ht (fun h => kt ((iI_lt b1 b2 a1 a2).mp h)) (fun h => kf (by have := mt (iI_lt b1 b2 a1 a2).mpr h; omega))
theorem fn_icmp_le {a b : Nat} {off : Int} {tgt : Nat} (hd : decode y.2.1 pc = .ok (.if_icmp .le off, 3)) (ht : (pc : Int) + off = (tgt : Int)) (ha : a < 2147483648) (hb : b < 2147483648) (kt : a ≤ b → fv_At y d mc ms Q tgt lv st f al k t) (kf : b < a → fv_At y d mc ms Q (pc + 3) lv st f al k t) : fv_At y d mc ms Q pc lv (.int (nI b) :: .int (nI a) :: st) f al k t :=
  fx_icmp_le hd ht (fun h => kt ((nI_leI ha hb).mp h)) (fun h => kf (by have := mt (nI_leI ha hb).mpr h; omega))
theorem fn_icmp_leZ {a b : Int} {off : Int} {tgt : Nat} (hd : decode y.2.1 pc = .ok (.if_icmp .le off, 3)) (ht : (pc : Int) + off = (tgt : Int)) (a1 : -2147483648 ≤ a) (a2 : a < 2147483648) (b1 : -2147483648 ≤ b) (b2 : b < 2147483648) (kt : a ≤ b → fv_At y d mc ms Q tgt lv st f al k t) (kf : b < a → fv_At y d mc ms Q (pc + 3) lv st f al k t) : fv_At y d mc ms Q pc lv (.int (iI b) :: .int (iI a) :: st) f al k t :=
  fx_icmp_le hd ht (fun h => kt ((iI_le a1 a2 b1 b2).mp h)) (fun h => kf (by have := mt (iI_le a1 a2 b1 b2).mpr h; omega))
theorem fn_if_eqZ {a : Int} {off : Int} {tgt : Nat} (hd : decode y.2.1 pc = .ok (.ifCond .eq off, 3)) (ht : (pc : Int) + off = (tgt : Int)) (a1 : -2147483648 ≤ a) (a2 : a < 2147483648) (kt : a = 0 → fv_At y d mc ms Q tgt lv st f al k t) (kf : a ≠ 0 → fv_At y d mc ms Q (pc + 3) lv st f al k t) : fv_At y d mc ms Q pc lv (.int (iI a) :: st) f al k t :=
  fx_if_eq hd ht (fun h => kt ((iI_eq a1 a2 (b := 0) (by decide) (by decide)).mp h)) (fun h => kf (fun e => h ((iI_eq a1 a2 (b := 0) (by decide) (by decide)).mpr e)))
theorem fn_if_eq {a : Nat} {off : Int} {tgt : Nat} (hd : decode y.2.1 pc = .ok (.ifCond .eq off, 3)) (ht : (pc : Int) + off = (tgt : Int)) (ha : a < 2147483648) (kt : a = 0 → fv_At y d mc ms Q tgt lv st f al k t) (kf : a ≠ 0 → fv_At y d mc ms Q (pc + 3) lv st f al k t) : fv_At y d mc ms Q pc lv (.int (nI a) :: st) f al k t :=
  fn_if_eqZ (a := (a : Int)) hd ht (by omega) (by omega) (fun h => kt (by omega)) (fun h => kf (by omega))
theorem fn_if_neZ {a : Int} {off : Int} {tgt : Nat} (hd : decode y.2.1 pc = .ok (.ifCond .ne off, 3)) (ht : (pc : Int) + off = (tgt : Int)) (a1 : -2147483648 ≤ a) (a2 : a < 2147483648) (kt : a ≠ 0 → fv_At y d mc ms Q tgt lv st f al k t) (kf : a = 0 → fv_At y d mc ms Q (pc + 3) lv st f al k t) : fv_At y d mc ms Q pc lv (.int (iI a) :: st) f al k t :=
  fx_if_ne hd ht (fun h => kt (fun e => h ((iI_eq a1 a2 (b := 0) (by decide) (by decide)).mpr e))) (fun h => kf ((iI_eq a1 a2 (b := 0) (by decide) (by decide)).mp h))
theorem fn_if_ne {a : Nat} {off : Int} {tgt : Nat} (hd : decode y.2.1 pc = .ok (.ifCond .ne off, 3)) (ht : (pc : Int) + off = (tgt : Int)) (ha : a < 2147483648) (kt : a ≠ 0 → fv_At y d mc ms Q tgt lv st f al k t) (kf : a = 0 → fv_At y d mc ms Q (pc + 3) lv st f al k t) : fv_At y d mc ms Q pc lv (.int (nI a) :: st) f al k t :=
  fn_if_neZ (a := (a : Int)) hd ht (by omega) (by omega) (fun h => kt (by omega)) (fun h => kf (by omega))
theorem fn_if_ltZ {a : Int} {off : Int} {tgt : Nat} (hd : decode y.2.1 pc = .ok (.ifCond .lt off, 3)) (ht : (pc : Int) + off = (tgt : Int)) (a1 : -2147483648 ≤ a) (a2 : a < 2147483648) (kt : a < 0 → fv_At y d mc ms Q tgt lv st f al k t) (kf : 0 ≤ a → fv_At y d mc ms Q (pc + 3) lv st f al k t) : fv_At y d mc ms Q pc lv (.int (iI a) :: st) f al k t :=
  fx_if_lt hd ht (fun h => kt ((iI_lt a1 a2 (b := 0) (by decide) (by decide)).mp h)) (fun h => kf (by have := mt (iI_lt a1 a2 (b := 0) (by decide) (by decide)).mpr h; omega))
theorem fn_if_lt {a : Nat} {off : Int} {tgt : Nat} (hd : decode y.2.1 pc = .ok (.ifCond .lt off, 3)) (ht : (pc : Int) + off = (tgt : Int)) (ha : a < 2147483648) (kt : a < 0 → fv_At y d mc ms Q tgt lv st f al k t) (kf : 0 ≤ a → fv_At y d mc ms Q (pc + 3) lv st f al k t) : fv_At y d mc ms Q pc lv (.int (nI a) :: st) f al k t :=
  fn_if_ltZ (a := (a : Int)) hd ht (by omega) (by omega) (fun h => kt (by omega)) (fun h => kf (by omega))
theorem fn_if_geZ {a : Int} {off : Int} {tgt : Nat} (hd : decode y.2.1 pc = .ok (.ifCond .ge off, 3)) (ht : (pc : Int) + off = (tgt : Int)) (a1 : -2147483648 ≤ a) (a2 : a < 2147483648) (kt : 0 ≤ a → fv_At y d mc ms Q tgt lv st f al k t) (kf : a < 0 → fv_At y d mc ms Q (pc + 3) lv st f al k t) : fv_At y d mc ms Q pc lv (.int (iI a) :: st) f al k t :=
  fx_if_ge hd ht (fun h => kt ((iI_le (a := 0) (by decide) (by decide) a1 a2).mp h)) (fun h => kf (by have := mt (iI_le (a := 0) (by decide) (by decide) a1 a2).mpr h; omega))
theorem fn_if_ge {a : Nat} {off : Int} {tgt : Nat} (hd : decode y.2.1 pc = .ok (.ifCond .ge off, 3)) (ht : (pc : Int) + off = (tgt : Int)) (ha : a < 2147483648) (kt : 0 ≤ a → fv_At y d mc ms Q tgt lv st f al k t) (kf : a < 0 → fv_At y d mc ms Q (pc + 3) lv st f al k t) : fv_At y d mc ms Q pc lv (.int (nI a) :: st) f al k t :=
  fn_if_geZ (a := (a : Int)) hd ht (by omega) (by omega) (fun h => kt (by omega)) (fun h => kf (by omega))
theorem fn_if_gtZ {a : Int} {off : Int} {tgt : Nat} (hd : decode y.2.1 pc = .ok (.ifCond .gt off, 3)) (ht : (pc : Int) + off = (tgt : Int)) (a1 : -2147483648 ≤ a) (a2 : a < 2147483648) (kt : 0 < a → fv_At y d mc ms Q tgt lv st f al k t) (kf : a ≤ 0 → fv_At y d mc ms Q (pc + 3) lv st f al k t) : fv_At y d mc ms Q pc lv (.int (iI a) :: st) f al k t :=
  fx_if_gt hd ht (fun h => kt ((iI_lt (a := 0) (by decide) (by decide) a1 a2).mp h)) (fun h => kf (by have := mt (iI_lt (a := 0) (by decide) (by decide) a1 a2).mpr h; omega))
theorem fn_if_gt {a : Nat} {off : Int} {tgt : Nat} (hd : decode y.2.1 pc = .ok (.ifCond .gt off, 3)) (ht : (pc : Int) + off = (tgt : Int)) (ha : a < 2147483648) (kt : 0 < a → fv_At y d mc ms Q tgt lv st f al k t) (kf : a ≤ 0 → fv_At y d mc ms Q (pc + 3) lv st f al k t) : fv_At y d mc ms Q pc lv (.int (nI a) :: st) f al k t :=
  fn_if_gtZ (a := (a : Int)) hd ht (by omega) (by omega) (fun h => kt (by omega)) (fun h => kf (by omega))
theorem fn_if_leZ {a : Int} {off : Int} {tgt : Nat} (hd : decode y.2.1 pc = .ok (.ifCond .le off, 3)) (ht : (pc : Int) + off = (tgt : Int)) (a1 : -2147483648 ≤ a) (a2 : a < 2147483648) (kt : a ≤ 0 → fv_At y d mc ms Q tgt lv st f al k t) (kf : 0 < a → fv_At y d mc ms Q (pc + 3) lv st f al k t) : fv_At y d mc ms Q pc lv (.int (iI a) :: st) f al k t :=
  fx_if_le hd ht (fun h => kt ((iI_le a1 a2 (b := 0) (by decide) (by decide)).mp h)) (fun h => kf (by have := mt (iI_le a1 a2 (b := 0) (by decide) (by decide)).mpr h; omega))
theorem fn_if_le {a : Nat} {off : Int} {tgt : Nat} (hd : decode y.2.1 pc = .ok (.ifCond .le off, 3)) (ht : (pc : Int) + off = (tgt : Int)) (ha : a < 2147483648) (kt : a ≤ 0 → fv_At y d mc ms Q tgt lv st f al k t) (kf : 0 < a → fv_At y d mc ms Q (pc + 3) lv st f al k t) : fv_At y d mc ms Q pc lv (.int (nI a) :: st) f al k t :=
  fn_if_leZ (a := (a : Int)) hd ht (by omega) (by omega) (fun h => kt (by omega)) (fun h => kf (by omega))
theorem fn_if_eqB {c : Bool} {off : Int} {tgt : Nat} (hd : decode y.2.1 pc = .ok (.ifCond .eq off, 3)) (ht : (pc : Int) + off = (tgt : Int)) (kt : c = false → fv_At y d mc ms Q tgt lv st f al k t) (kf : c = true → fv_At y d mc ms Q (pc + 3) lv st f al k t) : fv_At y d mc ms Q pc lv (.int (bI c) :: st) f al k t := by
  cases c
  · exact fx_if_eq hd ht (fun _ => kt rfl) (fun h => absurd rfl h)
  · exact fx_if_eq hd ht (fun h => absurd h (by decide)) (fun _ => kf rfl)
theorem fn_if_neB {c : Bool} {off : Int} {tgt : Nat} (hd : decode y.2.1 pc = .ok (.ifCond .ne off, 3)) (ht : (pc : Int) + off = (tgt : Int)) (kt : c = true → fv_At y d mc ms Q tgt lv st f al k t) (kf : c = false → fv_At y d mc ms Q (pc + 3) lv st f al k t) : fv_At y d mc ms Q pc lv (.int (bI c) :: st) f al k t := by
  cases c
  · exact fx_if_ne hd ht (fun h => absurd rfl h) (fun _ => kf rfl)
  · exact fx_if_ne hd ht (fun _ => kt rfl) (fun h => absurd h (by decide))
theorem fn_if_eqC {x z : Int64} {off : Int} {tgt : Nat} (hd : decode y.2.1 pc = .ok (.ifCond .eq off, 3)) (ht : (pc : Int) + off = (tgt : Int)) (kt : x = z → fv_At y d mc ms Q tgt lv st f al k t) (kf : x ≠ z → fv_At y d mc ms Q (pc + 3) lv st f al k t) : fv_At y d mc ms Q pc lv (.int (lg_cmp x z) :: st) f al k t :=
  fx_if_eq hd ht (fun h => kt ((lg_cmp_eq x z).mp h)) (fun h => kf (fun e => h ((lg_cmp_eq x z).mpr e)))
theorem fn_if_neC {x z : Int64} {off : Int} {tgt : Nat} (hd : decode y.2.1 pc = .ok (.ifCond .ne off, 3)) (ht : (pc : Int) + off = (tgt : Int)) (kt : x ≠ z → fv_At y d mc ms Q tgt lv st f al k t) (kf : x = z → fv_At y d mc ms Q (pc + 3) lv st f al k t) : fv_At y d mc ms Q pc lv (.int (lg_cmp x z) :: st) f al k t :=
  fx_if_ne hd ht (fun h => kt (fun e => h ((lg_cmp_eq x z).mpr e))) (fun h => kf ((lg_cmp_eq x z).mp h))
theorem fn_if_ltC {x z : Int64} {off : Int} {tgt : Nat} (hd : decode y.2.1 pc = .ok (.ifCond .lt off, 3)) (ht : (pc : Int) + off = (tgt : Int)) (kt : x < z → fv_At y d mc ms Q tgt lv st f al k t) (kf : ¬ x < z → fv_At y d mc ms Q (pc + 3) lv st f al k t) : fv_At y d mc ms Q pc lv (.int (lg_cmp x z) :: st) f al k t :=
  fx_if_lt hd ht (fun h => kt ((lg_cmp_lt x z).mp h)) (fun h => kf (fun e => h ((lg_cmp_lt x z).mpr e)))
theorem fn_if_geC {x z : Int64} {off : Int} {tgt : Nat} (hd : decode y.2.1 pc = .ok (.ifCond .ge off, 3)) (ht : (pc : Int) + off = (tgt : Int)) (kt : z ≤ x → fv_At y d mc ms Q tgt lv st f al k t) (kf : ¬ z ≤ x → fv_At y d mc ms Q (pc + 3) lv st f al k t) : fv_At y d mc ms Q pc lv (.int (lg_cmp x z) :: st) f al k t :=
  fx_if_ge hd ht (fun h => kt ((lg_cmp_ge x z).mp h)) (fun h => kf (fun e => h ((lg_cmp_ge x z).mpr e)))
theorem fn_if_gtC {x z : Int64} {off : Int} {tgt : Nat} (hd : decode y.2.1 pc = .ok (.ifCond .gt off, 3)) (ht : (pc : Int) + off = (tgt : Int)) (kt : z < x → fv_At y d mc ms Q tgt lv st f al k t) (kf : ¬ z < x → fv_At y d mc ms Q (pc + 3) lv st f al k t) : fv_At y d mc ms Q pc lv (.int (lg_cmp x z) :: st) f al k t :=
  fx_if_gt hd ht (fun h => kt ((lg_cmp_gt x z).mp h)) (fun h => kf (fun e => h ((lg_cmp_gt x z).mpr e)))
theorem fn_if_leC {x z : Int64} {off : Int} {tgt : Nat} (hd : decode y.2.1 pc = .ok (.ifCond .le off, 3)) (ht : (pc : Int) + off = (tgt : Int)) (kt : x ≤ z → fv_At y d mc ms Q tgt lv st f al k t) (kf : ¬ x ≤ z → fv_At y d mc ms Q (pc + 3) lv st f al k t) : fv_At y d mc ms Q pc lv (.int (lg_cmp x z) :: st) f al k t :=
  fx_if_le hd ht (fun h => kt ((lg_cmp_le x z).mp h)) (fun h => kf (fun e => h ((lg_cmp_le x z).mpr e)))
theorem fn_cS {idx n d2 : Nat} {y2 : fv_Y} {as rest : List Value} {r : Option Value} {f2 : fv_F} (hd : decode y.2.1 pc = .ok (.invokestatic idx, 3)) (hp : fv_mS y.1.cls idx y2 n) (hM : fv_M y2 d2 0 0 as f none (fv_eq r f2)) (hst : st = as.reverse ++ rest) (hn : as.length = n) (hdep : d2 < d) (hcat : (rest.map fun v => v.category).sum ≤ 8) (kk : fv_At y d 0 0 Q (pc + 3) lv (r.toList ++ rest) f2 none 0 0) : fv_At y d 0 0 Q pc lv st f none 0 0 :=
  fx_callS hd hp hM hst hn hdep hcat (Nat.le_refl _) (Nat.le_refl _) (fun r' f' al' h => by
    obtain ⟨rfl, rfl, rfl⟩ := h
    exact kk)
theorem fn_cSN {idx n d2 : Nat} {y2 : fv_Y} {as rest : List Value} {r : Option Value} {f2 : fv_F} (hd : decode y.2.1 pc = .ok (.invokestatic idx, 3)) (hp : fv_mSN y.1.cls idx y2 n) (hM : fv_M y2 d2 0 0 as f none (fv_eq r f2)) (hst : st = as.reverse ++ rest) (hn : as.length = n) (hdep : d2 < d) (hcat : (rest.map fun v => v.category).sum ≤ 8) (kk : fv_At y d 0 0 Q (pc + 3) lv (r.toList ++ rest) f2 none 0 0) : fv_At y d 0 0 Q pc lv st f none 0 0 :=
  fx_callSN hd hp hM hst hn hdep hcat (Nat.le_refl _) (Nat.le_refl _) (fun r' f' al' h => by
    obtain ⟨rfl, rfl, rfl⟩ := h
    exact kk)
theorem fn_cV {idx n d2 b ci nf : Nat} {y2 : fv_Y} {C : String} {T : u_T} {ty0 : Nat → FieldType} {fs as rest : List Value} {r : Option Value} {f2 : fv_F} (hd : decode y.2.1 pc = .ok (.invokevirtual idx, 3)) (hp : fv_mV y.1.cls idx y2 n) (hc : fv_cls ci C T nf ty0) (hC : y2.1.cls = C) (hf : f b = some (.inr (ci, fs))) (hM : fv_M y2 d2 0 0 (.ref b :: as) f none (fv_eq r f2)) (hst : st = as.reverse ++ .ref b :: rest) (hn : as.length = n) (hdep : d2 < d) (hcat : (rest.map fun v => v.category).sum ≤ 8) (kk : fv_At y d 0 0 Q (pc + 3) lv (r.toList ++ rest) f2 none 0 0) : fv_At y d 0 0 Q pc lv st f none 0 0 :=
  fx_callV hd hp hc hC hf hM hst hn hdep hcat (Nat.le_refl _) (Nat.le_refl _) (fun r' f' al' h => by
    obtain ⟨rfl, rfl, rfl⟩ := h
    exact kk)
end FN
