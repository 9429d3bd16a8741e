def mprs (q : Nat) : List Nat → List Nat
  | [] => []
  | a :: t => (t.filter (fun x => alq q a x (q + 1) 0)).map (fun x => a * 625 + x) ++ mprs q t
def pin (q c : Nat) : Nat := (pqo q (c : Int)).toNat
def cprs (q f s : Nat) : List Nat := (List.range' 0 (q ^ (2 - f))).flatMap (fun o => (List.range' 0 (q ^ (3 - s))).map (fun x => pin q (pfr q s (-1) x) * 625 + pin q (pfr q f (s : Int) o)))
def cpl (q : Nat) : List Nat := cprs q 0 1 ++ (cprs q 0 2 ++ (cprs q 0 3 ++ (cprs q 1 2 ++ (cprs q 1 3 ++ cprs q 2 3))))
theorem tt2 : (mprs 2 (esq 2)).isPerm (cpl 2) = true := by decide +kernel
theorem tt3 : (mprs 3 (esq 3)).isPerm (cpl 3) = true := by decide +kernel
theorem tt5 : (mprs 5 (esq 5)).isPerm (cpl 5) = true := by decide +kernel
