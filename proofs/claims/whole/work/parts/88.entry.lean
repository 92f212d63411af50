/-! the law's entry: what the tables and the Statement say there -/
def strF : List Nat := [58, 64, 66, 68, 70, 72, 74, 180, 192, 196, 203, 217, 313, 315, 317, 236, 241, 246, 258, 264, 271, 275, 292, 306]
def tmS (i : Nat) : Term := Term.string RX6 (strF.getD i 0)
def strW (t : Term) (l : Nat) (bs : List Int32) : List Cond := .exactly t "java/lang/String" :: .eq (.field t "java/lang/String" "coder" "B") (.int 0) :: .arrayOf (.field t "java/lang/String" "value" "[B") .byte :: .eq (.length (.field t "java/lang/String" "value" "[B")) (.int (Int32.ofNat l)) :: (List.range l).map (fun j => .eq (.elem (.field t "java/lang/String" "value" "[B") (.int (Int32.ofNat j))) (.int (bs.getD j 0)))
theorem strW_in : ∀ i, i < 24 → ∀ w ∈ strW (tmS i) (strL.getD i 0) (strB.getD i []), w ∈ flatC (Jvm.Cond.and given_1 narrow_1) := by decide +kernel
theorem strT_in : ∀ q ∈ strT, (Cond.stringRef q.1 q.2.1 q.2.2.1) ∈ lw_tbl := by decide +kernel
theorem strT_eq : ∀ q ∈ strT, q.2.2.2 < 24 ∧ (Term.string q.1 q.2.1 = tmS q.2.2.2 ∨ Cond.eq (tmS q.2.2.2) (Term.string q.1 q.2.1) ∈ flatC (Jvm.Cond.and given_1 narrow_1)) := by decide +kernel
theorem nestW_in : ∀ w ∈ nestW, w ∈ lw_tbl := by decide +kernel
theorem nestW_on : ∀ w ∈ nestW, w.onTables = true := by decide +kernel
theorem Bx_in : ∀ w ∈ Bx, w ∈ lw_tbl := by decide +kernel
theorem strL_b : ∀ i, i < 24 → strL.getD i 0 < 2 ^ 31 := by decide
def nkind : Cond → Bool
  | .fieldLinkNest _ _ _ _ _ _ => true
  | .methodLinkNest _ _ _ _ => true
  | .declares _ => true
  | .castable _ _ => true
  | _ => false
theorem nestW_k : ∀ w ∈ nestW, nkind w = true := by decide +kernel
theorem Bx_k : ∀ w ∈ Bx, nkind w = true := by decide +kernel
