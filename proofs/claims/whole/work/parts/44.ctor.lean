/-! constructors -/
def clrs (mi : MI) (l : List Nat) : MI := fun n i => if n ∈ l then 0 else mi n i
def clrsl (ml : ML) (l : List Nat) : ML := fun n i => if n ∈ l then 0 else ml n i
def ptl (pts : List (Nat × Nat × Nat)) (n j : Nat) : Option Nat := (pts.find? (fun q => q.1 == n && q.2.1 == j)).map (fun q => q.2.2)
def rs (mr : MR) (l : List Nat) (pts : List (Nat × Nat × Nat)) : MR := fun n j => match ptl pts n j with
  | some b => some b
  | none => if n ∈ l then none else mr n j
theorem clr_s (mi : MI) (l : List Nat) (a : Nat) : clr (clrs mi l) a = clrs mi (l ++ [a]) := by
  funext n i; unfold clr clrs
  by_cases h1 : n = a
  · simp [h1]
  · by_cases h2 : n ∈ l <;> simp [h1, h2]
theorem clrl_s (ml : ML) (l : List Nat) (a : Nat) : clrl (clrsl ml l) a = clrsl ml (l ++ [a]) := by
  funext n i; unfold clrl clrsl
  by_cases h1 : n = a
  · simp [h1]
  · by_cases h2 : n ∈ l <;> simp [h1, h2]
theorem ptl_no {pts : List (Nat × Nat × Nat)} {a : Nat} (h : ∀ q ∈ pts, q.1 ≠ a) (j : Nat) : ptl pts a j = none := by
  unfold ptl
  rw [List.find?_eq_none.mpr (fun q hq => by simp [h q hq])]; rfl
theorem clrr_s (mr : MR) (l : List Nat) {pts : List (Nat × Nat × Nat)} {a : Nat} (h : ∀ q ∈ pts, q.1 ≠ a) : clrr (rs mr l pts) a = rs mr (l ++ [a]) pts := by
  funext n i; unfold clrr rs
  by_cases h1 : n = a
  · subst h1; rw [ptl_no h, if_pos rfl]; simp
  · rw [if_neg h1]
    cases ptl pts n i with
    | some b => rfl
    | none => by_cases h2 : n ∈ l <;> simp [h1, h2]
theorem upr_s (mr : MR) (l : List Nat) (pts : List (Nat × Nat × Nat)) (a j b : Nat) : upr (rs mr l pts) a j (some b) = rs mr l ((a, j, b) :: pts) := by
  funext n i; unfold upr rs ptl
  by_cases h1 : n = a
  · subst h1
    by_cases h2 : i = j
    · subst h2; simp
    · have : (j == i) = false := by simp; exact fun e => h2 e.symm
      simp [h2, this]
  · have : (a == n) = false := by simp; exact fun e => h1 e.symm
    simp [h1, this]
theorem up_s0 (mi : MI) {l : List Nat} {a : Nat} (j : Nat) (h : a ∈ l) : up (clrs mi l) a j 0 = clrs mi l := by
  funext n i; unfold up clrs
  by_cases h1 : n = a
  · subst h1; simp [h]
  · simp [h1]
theorem upl_s0 (ml : ML) {l : List Nat} {a : Nat} (j : Nat) (h : a ∈ l) : upl (clrsl ml l) a j 0 = clrsl ml l := by
  funext n i; unfold upl clrsl
  by_cases h1 : n = a
  · subst h1; simp [h]
  · simp [h1]
theorem clrs_nil (mi : MI) : clrs mi [] = mi := by funext n i; simp [clrs]
theorem clrsl_nil (ml : ML) : clrsl ml [] = ml := by funext n i; simp [clrsl]
theorem rs_nil (mr : MR) : rs mr [] [] = mr := by funext n i; simp [rs, ptl]
theorem nin {dom BL l : List Nat} {a : Nat} (h : ∀ n ∈ dom, n ∉ BL) (h1 : a ∈ BL) (h2 : a ∉ l) : a ∉ dom ++ l := fun q => (List.mem_append.mp q).elim (fun q => h a q h1) h2
theorem canon {cc : ByteArray} {nL : Nat} {own nm : String} {rt : Option FieldType} {d : Nat} {G : GG} {X : Cx} {post : PT} {bc bs : Nat} {mi : MI} {ml : ML} {mr : MR} {dom l l1 : List Nat} {pts : List (Nat × Nat × Nat)} {pc a : Nat} {lv : List (Option Value)} {st : List Value} (h : ∀ q ∈ pts, q.1 ≠ a) (k : J cc nL own nm rt d G X post bc bs (clrs mi (l1 ++ [a])) (clrsl ml (l ++ [a])) (rs mr (l ++ [a]) pts) (dom ++ (l ++ [a])) pc lv st) : J cc nL own nm rt d G X post bc bs (clr (clrs mi l1) a) (clrl (clrsl ml l) a) (clrr (rs mr l pts) a) (dom ++ l ++ [a]) pc lv st := by
  rw [clr_s, clrl_s, clrr_s _ _ h, List.append_assoc]; exact k
section KO
variable {cc : ByteArray} {nL : Nat} {own nm : String} {rt : Option FieldType} {d : Nat} {G : GG} {X : Cx} {post : PT} {bc bs : Nat} {mi : MI} {ml : ML} {mr : MR} {dom : List Nat} {pc b : Nat} {lv : List (Option Value)} {st : List Value}
theorem j_obj {index : Nat} (hlink : Cond.methodLink own index Lib.objectInit ∈ wtbl) (hd : decode cc pc = .ok (.invokespecial index, 3)) (h1 : 1 ≤ d) (hst : (st.map fun v => v.category).sum ≤ 8) (k : J cc nL own nm rt d G X post bc bs mi ml mr dom (pc + 3) lv st) : J cc nL own nm rt d G X post bc bs mi ml mr dom pc lv (.ref b :: st) := by
  obtain ⟨p, l, e, R, s, m, args, below, meth, c, ad0, dom0⟩ := X
  intro ok ad H locs cells slots ls hR hS hE hc hs hl hol hos
  refine W.objInit ok.1 ok.2.1 ok.2.2.2.1 (ok.2.2.2.2.1 _ hlink) (ok.2.2.2.2.1 _ wd138) (ok.2.2.2.2.1 _ wd139) rfl (by rw [ok.2.2.1]; exact hl.1) rfl hd (by rw [ok.2.2.2.2.2.2.2.2.2.1]; exact h1) ?_ (k ok ad H locs cells slots ls hR hS hE hc hs hl hol hos.t)
  rw [rn_cats, ok.2.2.2.2.2.2.2.2.2.2]
  show 2 * 0 + _ + 12 ≤ _
  omega
theorem oI11_3 (hd : decode cc pc = .ok (.invokespecial 3, 3)) (hdd : 1 ≤ d) (hst : (st.map fun v => v.category).sum ≤ 8) (k : J cc nL RX11 nm rt d G X post bc bs mi ml mr dom (pc + 3) lv st) : J cc nL RX11 nm rt d G X post bc bs mi ml mr dom pc lv (.ref b :: st) := j_obj wd137 hd hdd hst k
theorem oI9_3 (hd : decode cc pc = .ok (.invokespecial 3, 3)) (hdd : 1 ≤ d) (hst : (st.map fun v => v.category).sum ≤ 8) (k : J cc nL RX9 nm rt d G X post bc bs mi ml mr dom (pc + 3) lv st) : J cc nL RX9 nm rt d G X post bc bs mi ml mr dom pc lv (.ref b :: st) := j_obj wd145 hd hdd hst k
theorem oI2_3 (hd : decode cc pc = .ok (.invokespecial 3, 3)) (hdd : 1 ≤ d) (hst : (st.map fun v => v.category).sum ≤ 8) (k : J cc nL RX2 nm rt d G X post bc bs mi ml mr dom (pc + 3) lv st) : J cc nL RX2 nm rt d G X post bc bs mi ml mr dom pc lv (.ref b :: st) := j_obj wd151 hd hdd hst k
theorem oI3_3 (hd : decode cc pc = .ok (.invokespecial 3, 3)) (hdd : 1 ≤ d) (hst : (st.map fun v => v.category).sum ≤ 8) (k : J cc nL RX3 nm rt d G X post bc bs mi ml mr dom (pc + 3) lv st) : J cc nL RX3 nm rt d G X post bc bs mi ml mr dom pc lv (.ref b :: st) := j_obj wd181 hd hdd hst k
theorem oI1_1 (hd : decode cc pc = .ok (.invokespecial 1, 3)) (hdd : 1 ≤ d) (hst : (st.map fun v => v.category).sum ≤ 8) (k : J cc nL RX1 nm rt d G X post bc bs mi ml mr dom (pc + 3) lv st) : J cc nL RX1 nm rt d G X post bc bs mi ml mr dom pc lv (.ref b :: st) := j_obj wd212 hd hdd hst k
theorem oI10_1 (hd : decode cc pc = .ok (.invokespecial 1, 3)) (hdd : 1 ≤ d) (hst : (st.map fun v => v.category).sum ≤ 8) (k : J cc nL RX10 nm rt d G X post bc bs mi ml mr dom (pc + 3) lv st) : J cc nL RX10 nm rt d G X post bc bs mi ml mr dom pc lv (.ref b :: st) := j_obj wd238 hd hdd hst k
theorem oI5_1 (hd : decode cc pc = .ok (.invokespecial 1, 3)) (hdd : 1 ≤ d) (hst : (st.map fun v => v.category).sum ≤ 8) (k : J cc nL RX5 nm rt d G X post bc bs mi ml mr dom (pc + 3) lv st) : J cc nL RX5 nm rt d G X post bc bs mi ml mr dom pc lv (.ref b :: st) := j_obj wd262 hd hdd hst k
theorem oI6_3 (hd : decode cc pc = .ok (.invokespecial 3, 3)) (hdd : 1 ≤ d) (hst : (st.map fun v => v.category).sum ≤ 8) (k : J cc nL RX6 nm rt d G X post bc bs mi ml mr dom (pc + 3) lv st) : J cc nL RX6 nm rt d G X post bc bs mi ml mr dom pc lv (.ref b :: st) := j_obj wd377 hd hdd hst k
theorem oI4_5 (hd : decode cc pc = .ok (.invokespecial 5, 3)) (hdd : 1 ≤ d) (hst : (st.map fun v => v.category).sum ≤ 8) (k : J cc nL RX4 nm rt d G X post bc bs mi ml mr dom (pc + 3) lv st) : J cc nL RX4 nm rt d G X post bc bs mi ml mr dom pc lv (.ref b :: st) := j_obj wd488 hd hdd hst k
theorem oI0_3 (hd : decode cc pc = .ok (.invokespecial 3, 3)) (hdd : 1 ≤ d) (hst : (st.map fun v => v.category).sum ≤ 8) (k : J cc nL RX0 nm rt d G X post bc bs mi ml mr dom (pc + 3) lv st) : J cc nL RX0 nm rt d G X post bc bs mi ml mr dom pc lv (.ref b :: st) := j_obj wd515 hd hdd hst k
theorem oI7_3 (hd : decode cc pc = .ok (.invokespecial 3, 3)) (hdd : 1 ≤ d) (hst : (st.map fun v => v.category).sum ≤ 8) (k : J cc nL RX7 nm rt d G X post bc bs mi ml mr dom (pc + 3) lv st) : J cc nL RX7 nm rt d G X post bc bs mi ml mr dom pc lv (.ref b :: st) := j_obj wd541 hd hdd hst k
theorem oI8_3 (hd : decode cc pc = .ok (.invokespecial 3, 3)) (hdd : 1 ≤ d) (hst : (st.map fun v => v.category).sum ≤ 8) (k : J cc nL RX8 nm rt d G X post bc bs mi ml mr dom (pc + 3) lv st) : J cc nL RX8 nm rt d G X post bc bs mi ml mr dom pc lv (.ref b :: st) := j_obj wd557 hd hdd hst k
theorem oI13_3 (hd : decode cc pc = .ok (.invokespecial 3, 3)) (hdd : 1 ≤ d) (hst : (st.map fun v => v.category).sum ≤ 8) (k : J cc nL RX13 nm rt d G X post bc bs mi ml mr dom (pc + 3) lv st) : J cc nL RX13 nm rt d G X post bc bs mi ml mr dom pc lv (.ref b :: st) := j_obj wd1357 hd hdd hst k
theorem oI12_3 (hd : decode cc pc = .ok (.invokespecial 3, 3)) (hdd : 1 ≤ d) (hst : (st.map fun v => v.category).sum ≤ 8) (k : J cc nL RX12 nm rt d G X post bc bs mi ml mr dom (pc + 3) lv st) : J cc nL RX12 nm rt d G X post bc bs mi ml mr dom pc lv (.ref b :: st) := j_obj wd1476 hd hdd hst k
end KO
section KC
variable {G : GG} {post : PT} {mi : MI} {ml : ML} {mr : MR} {dom BL l : List Nat} {pts : List (Nat × Nat × Nat)} {T p : Nat}
theorem k_person {a : Nat} (hfr : ∀ n ∈ dom, n ∉ BL) (ha : a ∈ l) (hk : kd a = 3) (hk2 : kd (a + 10) = 15) (hl2 : ln (a + 10) = 5) (hb : a + 10 ∈ BL) (hn : a + 10 ∉ l) (hlt : ¬ lit (a + 10)) (hpt : ∀ q ∈ pts, q.1 ≠ a + 10) (hp : post none (clrs mi (l ++ [(a + 10)])) (clrsl ml (l ++ [(a + 10)])) (rs mr (l ++ [(a + 10)]) ((a, 3, a + 10) :: pts)) (dom ++ (l ++ [(a + 10)]))) : CT G 2 1 5 yX3_init cX3_init 1 none [.ref a] (clrs mi l) (clrsl ml l) (rs mr l pts) (dom ++ l) post := by
  refine enter 0 (by decide) rfl rfl (fun X => ?_)
  refine j_aload_n dX3_init_0 rfl rfl ?_
  refine oI3_3 dX3_init_1 (by decide) (Nat.le_of_ble_eq_true rfl) ?_
  refine j_aload_n dX3_init_4 rfl rfl ?_
  refine j_iconst (v := 0) dX3_init_5 (by decide) ?_
  refine pI3_9 hk dX3_init_6 ?_
  rw [up_s0 _ _ ha]
  refine j_aload_n dX3_init_9 rfl rfl ?_
  refine j_iconst (v := 0) dX3_init_10 (by decide) ?_
  refine pI3_15 hk dX3_init_11 ?_
  rw [up_s0 _ _ ha]
  refine j_aload_n dX3_init_14 rfl rfl ?_
  refine j_iconst (v := 0) dX3_init_15 (by decide) ?_
  refine pI3_18 hk dX3_init_16 ?_
  rw [up_s0 _ _ ha]
  refine j_aload_n dX3_init_19 rfl rfl ?_
  refine j_iconst (v := 5) dX3_init_20 (by decide) ?_
  refine j_newI (a := (a + 10)) hk2 hl2 rfl rfl (by decide) dX3_init_21 (nin hfr hb hn) hlt (by decide) (by decide) (canon hpt ?_)
  refine pR3_21 hk rfl dX3_init_23 ?_
  rw [upr_s]
  refine j_vret rfl dX3_init_26 ?_
  exact hp
theorem k_good {a : Nat} (hfr : ∀ n ∈ dom, n ∉ BL) (ha : a ∈ l) (hk : kd a = 1) (hp : post none (clrs mi l) (clrsl ml l) (rs mr l pts) (dom ++ l)) : CT G 2 0 0 yX1_init cX1_init 1 none [.ref a] (clrs mi l) (clrsl ml l) (rs mr l pts) (dom ++ l) post := by
  refine enter 0 (by decide) rfl rfl (fun X => ?_)
  refine j_aload_n dX1_init_0 rfl rfl ?_
  refine oI1_1 dX1_init_1 (by decide) (Nat.le_of_ble_eq_true rfl) ?_
  refine j_aload_n dX1_init_4 rfl rfl ?_
  refine j_iconst (v := 0) dX1_init_5 (by decide) ?_
  refine pI1_7 hk dX1_init_6 ?_
  rw [up_s0 _ _ ha]
  refine j_aload_n dX1_init_9 rfl rfl ?_
  refine j_iconst (v := 0) dX1_init_10 (by decide) ?_
  refine pI1_13 hk dX1_init_11 ?_
  rw [up_s0 _ _ ha]
  refine j_aload_n dX1_init_14 rfl rfl ?_
  refine j_iconst (v := 0) dX1_init_15 (by decide) ?_
  refine pI1_16 hk dX1_init_16 ?_
  rw [up_s0 _ _ ha]
  refine j_vret rfl dX1_init_19 ?_
  exact hp
theorem k_visit {a : Nat} (hfr : ∀ n ∈ dom, n ∉ BL) (ha : a ∈ l) (hk : kd a = 10) (hp : post none (clrs mi l) (clrsl ml l) (rs mr l pts) (dom ++ l)) : CT G 2 0 0 yX10_init cX10_init 1 none [.ref a] (clrs mi l) (clrsl ml l) (rs mr l pts) (dom ++ l) post := by
  refine enter 0 (by decide) rfl rfl (fun X => ?_)
  refine j_aload_n dX10_init_0 rfl rfl ?_
  refine oI10_1 dX10_init_1 (by decide) (Nat.le_of_ble_eq_true rfl) ?_
  refine j_aload_n dX10_init_4 rfl rfl ?_
  refine j_iconst (v := 0) dX10_init_5 (by decide) ?_
  refine pI10_7 hk dX10_init_6 ?_
  rw [up_s0 _ _ ha]
  refine j_aload_n dX10_init_9 rfl rfl ?_
  refine j_iconst (v := 0) dX10_init_10 (by decide) ?_
  refine pI10_13 hk dX10_init_11 ?_
  rw [up_s0 _ _ ha]
  refine j_aload_n dX10_init_14 rfl rfl ?_
  refine j_iconst (v := 0) dX10_init_15 (by decide) ?_
  refine pI10_16 hk dX10_init_16 ?_
  rw [up_s0 _ _ ha]
  refine j_vret rfl dX10_init_19 ?_
  exact hp
theorem k_print {a : Nat} (hfr : ∀ n ∈ dom, n ∉ BL) (ha : a ∈ l) (hk : kd a = 5) (hp : post none (clrs mi l) (clrsl ml l) (rs mr l pts) (dom ++ l)) : CT G 2 0 0 yX5_init cX5_init 1 none [.ref a] (clrs mi l) (clrsl ml l) (rs mr l pts) (dom ++ l) post := by
  refine enter 0 (by decide) rfl rfl (fun X => ?_)
  refine j_aload_n dX5_init_0 rfl rfl ?_
  refine oI5_1 dX5_init_1 (by decide) (Nat.le_of_ble_eq_true rfl) ?_
  refine j_aload_n dX5_init_4 rfl rfl ?_
  refine j_iconst (v := 0) dX5_init_5 (by decide) ?_
  refine pI5_7 hk dX5_init_6 ?_
  rw [up_s0 _ _ ha]
  refine j_aload_n dX5_init_9 rfl rfl ?_
  refine j_iconst (v := 0) dX5_init_10 (by decide) ?_
  refine pI5_13 hk dX5_init_11 ?_
  rw [up_s0 _ _ ha]
  refine j_aload_n dX5_init_14 rfl rfl ?_
  refine j_iconst (v := 0) dX5_init_15 (by decide) ?_
  refine pI5_16 hk dX5_init_16 ?_
  rw [up_s0 _ _ ha]
  refine j_vret rfl dX5_init_19 ?_
  exact hp
theorem k_lanes {a : Nat} (hfr : ∀ n ∈ dom, n ∉ BL) (ha : a ∈ l) (hk : kd a = 2) (hk1 : kd (a + 1) = 15) (hk2 : kd (a + 2) = 15) (hl1 : ln (a + 1) = 36) (hl2 : ln (a + 2) = 36) (hb1 : a + 1 ∈ BL) (hb2 : a + 2 ∈ BL) (hn1 : a + 1 ∉ l) (hn2 : a + 2 ∉ l) (hlt1 : ¬ lit (a + 1)) (hlt2 : ¬ lit (a + 2)) (hpt1 : ∀ q ∈ pts, q.1 ≠ a + 1) (hpt2 : ∀ q ∈ pts, q.1 ≠ a + 2) (hp : post none (clrs mi ((l ++ [(a + 1)]) ++ [(a + 2)])) (clrsl ml ((l ++ [(a + 1)]) ++ [(a + 2)])) (rs mr ((l ++ [(a + 1)]) ++ [(a + 2)]) ((a, 2, a + 2) :: ((a, 1, a + 1) :: pts))) (dom ++ ((l ++ [(a + 1)]) ++ [(a + 2)]))) : CT G 2 2 72 yX2_init cX2_init 1 none [.ref a] (clrs mi l) (clrsl ml l) (rs mr l pts) (dom ++ l) post := by
  refine enter 0 (by decide) rfl rfl (fun X => ?_)
  refine j_aload_n dX2_init_0 rfl rfl ?_
  refine oI2_3 dX2_init_1 (by decide) (Nat.le_of_ble_eq_true rfl) ?_
  refine j_aload_n dX2_init_4 rfl rfl ?_
  refine j_iconst (v := 0) dX2_init_5 (by decide) ?_
  refine pI2_9 hk dX2_init_6 ?_
  rw [up_s0 _ _ ha]
  refine j_aload_n dX2_init_9 rfl rfl ?_
  refine j_bipush (v := 36) dX2_init_10 (by decide) ?_
  refine j_newI (a := (a + 1)) hk1 hl1 rfl rfl (by decide) dX2_init_12 (nin hfr hb1 hn1) hlt1 (by decide) (by decide) (canon hpt1 ?_)
  refine pR2_15 hk rfl dX2_init_14 ?_
  rw [upr_s]
  refine j_aload_n dX2_init_17 rfl rfl ?_
  refine j_bipush (v := 36) dX2_init_18 (by decide) ?_
  refine j_newI (a := (a + 2)) hk2 hl2 rfl rfl (by decide) dX2_init_20 (nin hfr hb2 (fun q => (List.mem_append.mp q).elim hn2 (fun q => absurd (List.mem_singleton.mp q) (by omega)))) hlt2 (by decide) (by decide) (canon (List.forall_mem_cons.mpr ⟨show a ≠ a + 2 by omega, hpt2⟩) ?_)
  refine pR2_19 hk rfl dX2_init_22 ?_
  rw [upr_s]
  refine j_aload_n dX2_init_25 rfl rfl ?_
  refine j_iconst (v := 0) dX2_init_26 (by decide) ?_
  refine pI2_22 hk dX2_init_27 ?_
  rw [up_s0 _ _ (List.mem_append_left _ (List.mem_append_left _ ha))]
  refine j_vret rfl dX2_init_30 ?_
  exact hp
theorem clr_1 (mi : MI) (a : Nat) : clr mi a = clrs mi [a] := by funext n i; simp [clr, clrs]
theorem clrl_1 (ml : ML) (a : Nat) : clrl ml a = clrsl ml [a] := by funext n i; simp [clrl, clrsl]
theorem clrr_1 (mr : MR) (a : Nat) : clrr mr a = rs mr [a] [] := by funext n i; simp [clrr, rs, ptl]
theorem clrs_s (mi : MI) (l L : List Nat) : clrs (clrs mi l) L = clrs mi (l ++ L) := by
  funext n i; unfold clrs
  by_cases h1 : n ∈ L
  · simp [h1]
  · by_cases h2 : n ∈ l <;> simp [h1, h2]
theorem clrsl_s (ml : ML) (l L : List Nat) : clrsl (clrsl ml l) L = clrsl ml (l ++ L) := by
  funext n i; unfold clrsl
  by_cases h1 : n ∈ L
  · simp [h1]
  · by_cases h2 : n ∈ l <;> simp [h1, h2]
theorem ptl_app (P Q : List (Nat × Nat × Nat)) (n j : Nat) : ptl (P ++ Q) n j = (ptl P n j).or (ptl Q n j) := by
  unfold ptl; rw [List.find?_append]
  cases P.find? (fun q => q.1 == n && q.2.1 == j) <;> simp
theorem rs_s (mr : MR) (l L : List Nat) (pts PTS : List (Nat × Nat × Nat)) (h : ∀ q ∈ pts, q.1 ∉ L) : rs (rs mr l pts) L PTS = rs mr (l ++ L) (PTS ++ pts) := by
  funext n i; unfold rs; rw [ptl_app]
  cases e : ptl PTS n i with
  | some b => rfl
  | none =>
    simp only [Option.none_or]
    by_cases h1 : n ∈ L
    · rw [ptl_no (fun q hq => fun z => h q hq (z ▸ h1))]; simp [h1]
    · cases ptl pts n i with
      | some b => simp [h1]
      | none => by_cases h2 : n ∈ l <;> simp [h1, h2]
theorem canon2 {G : GG} {post : PT} {mi : MI} {ml : ML} {mr : MR} {dom l L : List Nat} {pts PTS : List (Nat × Nat × Nat)} (h : ∀ q ∈ pts, q.1 ∉ L) (k : post none (clrs mi (l ++ L)) (clrsl ml (l ++ L)) (rs mr (l ++ L) (PTS ++ pts)) (dom ++ (l ++ L))) : post none (clrs (clrs mi l) L) (clrsl (clrsl ml l) L) (rs (rs mr l pts) L PTS) (dom ++ l ++ L) := by
  rw [clrs_s, clrsl_s, rs_s _ _ _ _ _ h, List.append_assoc]; exact k
def CB : List Nat := List.range 23
theorem k_present  (hfr : ∀ n ∈ dom, n ∉ [8, 9, 10, 11])  (hp : post none (clrs mi ((([8] ++ [9]) ++ [10]) ++ [11])) (clrsl ml ((([8] ++ [9]) ++ [10]) ++ [11])) (rs mr ((([8] ++ [9]) ++ [10]) ++ [11]) ((8, 5, 11) :: ((8, 3, 10) :: ((8, 2, 9) :: [])))) (dom ++ ((([8] ++ [9]) ++ [10]) ++ [11]))) : CT G 2 3 260 yX4_init cX4_init 1 none [.ref 8] (clr mi 8) (clrl ml 8) (clrr mr 8) (dom ++ [8]) post := by
  rw [clr_1, clrl_1, clrr_1]
  refine enter 0 (by decide) rfl rfl (fun X => ?_)
  refine j_aload_n dX4_init_0 rfl rfl ?_
  refine oI4_5 dX4_init_1 (by decide) (Nat.le_of_ble_eq_true rfl) ?_
  refine j_aload_n dX4_init_4 rfl rfl ?_
  refine j_iconst (v := 0) dX4_init_5 (by decide) ?_
  refine pI4_11 rfl dX4_init_6 ?_
  rw [up_s0 _ _ (by decide)]
  refine j_aload_n dX4_init_9 rfl rfl ?_
  refine j_iconst (v := 0) dX4_init_10 (by decide) ?_
  refine pI4_15 rfl dX4_init_11 ?_
  rw [up_s0 _ _ (by decide)]
  refine j_aload_n dX4_init_14 rfl rfl ?_
  refine j_bipush (v := 13) dX4_init_15 (by decide) ?_
  refine j_newI (a := 9) rfl rfl rfl rfl (by decide) dX4_init_17 (nin hfr (by decide) (by decide)) (by unfold lit; omega) (by decide) (by decide) (canon (by decide) ?_)
  refine pR4_18 rfl rfl dX4_init_19 ?_
  rw [upr_s]
  refine j_aload_n dX4_init_22 rfl rfl ?_
  refine j_sipush (v := 208) dX4_init_23 (by decide) ?_
  refine j_newI (a := 10) rfl rfl rfl rfl (by decide) dX4_init_26 (nin hfr (by decide) (by decide)) (by unfold lit; omega) (by decide) (by decide) (canon (by decide) ?_)
  refine pR4_22 rfl rfl dX4_init_28 ?_
  rw [upr_s]
  refine j_aload_n dX4_init_31 rfl rfl ?_
  refine j_iconst (v := 0) dX4_init_32 (by decide) ?_
  refine pI4_25 rfl dX4_init_33 ?_
  rw [up_s0 _ _ (by decide)]
  refine j_aload_n dX4_init_36 rfl rfl ?_
  refine j_bipush (v := 39) dX4_init_37 (by decide) ?_
  refine j_newI (a := 11) rfl rfl rfl rfl (by decide) dX4_init_39 (nin hfr (by decide) (by decide)) (by unfold lit; omega) (by decide) (by decide) (canon (by decide) ?_)
  refine pR4_28 rfl rfl dX4_init_41 ?_
  rw [upr_s]
  refine j_vret rfl dX4_init_44 ?_
  exact hp
theorem k_carrying  (hfr : ∀ n ∈ dom, n ∉ [12, 13, 14, 15, 16])  (hp : post none (clrs mi (((([12] ++ [13]) ++ [14]) ++ [15]) ++ [16])) (clrsl ml (((([12] ++ [13]) ++ [14]) ++ [15]) ++ [16])) (rs mr (((([12] ++ [13]) ++ [14]) ++ [15]) ++ [16]) ((12, 3, 16) :: ((12, 2, 15) :: ((12, 1, 14) :: ((12, 0, 13) :: []))))) (dom ++ (((([12] ++ [13]) ++ [14]) ++ [15]) ++ [16]))) : CT G 2 4 208 yX0_init cX0_init 1 none [.ref 12] (clr mi 12) (clrl ml 12) (clrr mr 12) (dom ++ [12]) post := by
  rw [clr_1, clrl_1, clrr_1]
  refine enter 0 (by decide) rfl rfl (fun X => ?_)
  refine j_aload_n dX0_init_0 rfl rfl ?_
  refine oI0_3 dX0_init_1 (by decide) (Nat.le_of_ble_eq_true rfl) ?_
  refine j_aload_n dX0_init_4 rfl rfl ?_
  refine j_iconst (v := 5) dX0_init_5 (by decide) ?_
  refine j_newI (a := 13) rfl rfl rfl rfl (by decide) dX0_init_6 (nin hfr (by decide) (by decide)) (by unfold lit; omega) (by decide) (by decide) (canon (by decide) ?_)
  refine pR0_9 rfl rfl dX0_init_8 ?_
  rw [upr_s]
  refine j_aload_n dX0_init_11 rfl rfl ?_
  refine j_iconst (v := 5) dX0_init_12 (by decide) ?_
  refine j_newI (a := 14) rfl rfl rfl rfl (by decide) dX0_init_13 (nin hfr (by decide) (by decide)) (by unfold lit; omega) (by decide) (by decide) (canon (by decide) ?_)
  refine pR0_15 rfl rfl dX0_init_15 ?_
  rw [upr_s]
  refine j_aload_n dX0_init_18 rfl rfl ?_
  refine j_bipush (v := 6) dX0_init_19 (by decide) ?_
  refine j_newI (a := 15) rfl rfl rfl rfl (by decide) dX0_init_21 (nin hfr (by decide) (by decide)) (by unfold lit; omega) (by decide) (by decide) (canon (by decide) ?_)
  refine pR0_18 rfl rfl dX0_init_23 ?_
  rw [upr_s]
  refine j_aload_n dX0_init_26 rfl rfl ?_
  refine j_sipush (v := 192) dX0_init_27 (by decide) ?_
  refine j_newI (a := 16) rfl rfl rfl rfl (by decide) dX0_init_30 (nin hfr (by decide) (by decide)) (by unfold lit; omega) (by decide) (by decide) (canon (by decide) ?_)
  refine pR0_21 rfl rfl dX0_init_32 ?_
  rw [upr_s]
  refine j_aload_n dX0_init_35 rfl rfl ?_
  refine j_iconst (v := 0) dX0_init_36 (by decide) ?_
  refine pI0_24 rfl dX0_init_37 ?_
  rw [up_s0 _ _ (by decide)]
  refine j_aload_n dX0_init_40 rfl rfl ?_
  refine j_iconst (v := 0) dX0_init_41 (by decide) ?_
  refine pI0_28 rfl dX0_init_42 ?_
  rw [up_s0 _ _ (by decide)]
  refine j_vret rfl dX0_init_45 ?_
  exact hp
theorem k_rows  (hfr : ∀ n ∈ dom, n ∉ [17, 18, 19])  (hp : post none (clrs mi (([17] ++ [18]) ++ [19])) (clrsl ml (([17] ++ [18]) ++ [19])) (rs mr (([17] ++ [18]) ++ [19]) ((17, 1, 19) :: ((17, 0, 18) :: []))) (dom ++ (([17] ++ [18]) ++ [19]))) : CT G 2 2 35 yX7_init cX7_init 1 none [.ref 17] (clr mi 17) (clrl ml 17) (clrr mr 17) (dom ++ [17]) post := by
  rw [clr_1, clrl_1, clrr_1]
  refine enter 0 (by decide) rfl rfl (fun X => ?_)
  refine j_aload_n dX7_init_0 rfl rfl ?_
  refine oI7_3 dX7_init_1 (by decide) (Nat.le_of_ble_eq_true rfl) ?_
  refine j_aload_n dX7_init_4 rfl rfl ?_
  refine j_bipush (v := 30) dX7_init_5 (by decide) ?_
  refine j_newI (a := 18) rfl rfl rfl rfl (by decide) dX7_init_7 (nin hfr (by decide) (by decide)) (by unfold lit; omega) (by decide) (by decide) (canon (by decide) ?_)
  refine pR7_9 rfl rfl dX7_init_9 ?_
  rw [upr_s]
  refine j_aload_n dX7_init_12 rfl rfl ?_
  refine j_iconst (v := 5) dX7_init_13 (by decide) ?_
  refine j_newI (a := 19) rfl rfl rfl rfl (by decide) dX7_init_14 (nin hfr (by decide) (by decide)) (by unfold lit; omega) (by decide) (by decide) (canon (by decide) ?_)
  refine pR7_15 rfl rfl dX7_init_16 ?_
  rw [upr_s]
  refine j_aload_n dX7_init_19 rfl rfl ?_
  refine j_iconst (v := 0) dX7_init_20 (by decide) ?_
  refine pI7_18 rfl dX7_init_21 ?_
  rw [up_s0 _ _ (by decide)]
  refine j_vret rfl dX7_init_24 ?_
  exact hp
theorem k_shops  (hfr : ∀ n ∈ dom, n ∉ [20, 21, 22])  (hp : post none (clrs mi (([20] ++ [21]) ++ [22])) (clrsl ml (([20] ++ [21]) ++ [22])) (rs mr (([20] ++ [21]) ++ [22]) ((20, 1, 22) :: ((20, 0, 21) :: []))) (dom ++ (([20] ++ [21]) ++ [22]))) : CT G 2 2 42 yX8_init cX8_init 1 none [.ref 20] (clr mi 20) (clrl ml 20) (clrr mr 20) (dom ++ [20]) post := by
  rw [clr_1, clrl_1, clrr_1]
  refine enter 0 (by decide) rfl rfl (fun X => ?_)
  refine j_aload_n dX8_init_0 rfl rfl ?_
  refine oI8_3 dX8_init_1 (by decide) (Nat.le_of_ble_eq_true rfl) ?_
  refine j_aload_n dX8_init_4 rfl rfl ?_
  refine j_bipush (v := 36) dX8_init_5 (by decide) ?_
  refine j_newI (a := 21) rfl rfl rfl rfl (by decide) dX8_init_7 (nin hfr (by decide) (by decide)) (by unfold lit; omega) (by decide) (by decide) (canon (by decide) ?_)
  refine pR8_9 rfl rfl dX8_init_9 ?_
  rw [upr_s]
  refine j_aload_n dX8_init_12 rfl rfl ?_
  refine j_bipush (v := 6) dX8_init_13 (by decide) ?_
  refine j_newI (a := 22) rfl rfl rfl rfl (by decide) dX8_init_15 (nin hfr (by decide) (by decide)) (by unfold lit; omega) (by decide) (by decide) (canon (by decide) ?_)
  refine pR8_15 rfl rfl dX8_init_17 ?_
  rw [upr_s]
  refine j_vret rfl dX8_init_20 ?_
  exact hp
theorem k_reader  (hfr : ∀ n ∈ dom, n ∉ [2, 3, 4, 5, 6, 7])  (hp : post none (clrs mi ((((([2] ++ [3]) ++ [4]) ++ [5]) ++ [6]) ++ [7])) (upl (upl (upl (upl (upl (upl (upl (clrsl ml ((((([2] ++ [3]) ++ [4]) ++ [5]) ++ [6]) ++ [7])) 4 0 (kc 0)) 4 1 (kc 1)) 4 2 (kc 2)) 4 3 (kc 3)) 4 4 (kc 4)) 4 5 (kc 5)) 4 6 (kc 6)) (rs mr ((((([2] ++ [3]) ++ [4]) ++ [5]) ++ [6]) ++ [7]) ((2, 12, 7) :: ((2, 11, 6) :: ((2, 10, 5) :: ((2, 9, 4) :: ((2, 2, 3) :: [])))))) (dom ++ ((((([2] ++ [3]) ++ [4]) ++ [5]) ++ [6]) ++ [7]))) : CT G 8 5 58 yX6_init cX6_init 1 none [.ref 2] (clr mi 2) (clrl ml 2) (clrr mr 2) (dom ++ [2]) post := by
  rw [clr_1, clrl_1, clrr_1]
  refine enter 0 (by decide) rfl rfl (fun X => ?_)
  refine j_aload_n dX6_init_0 rfl rfl ?_
  refine oI6_3 dX6_init_1 (by decide) (Nat.le_of_ble_eq_true rfl) ?_
  refine j_aload_n dX6_init_4 rfl rfl ?_
  refine j_iconst (v := 0) dX6_init_5 (by decide) ?_
  refine pI6_9 rfl dX6_init_6 ?_
  rw [up_s0 _ _ (by decide)]
  refine j_aload_n dX6_init_9 rfl rfl ?_
  refine j_iconst (v := 0) dX6_init_10 (by decide) ?_
  refine pI6_15 rfl dX6_init_11 ?_
  rw [up_s0 _ _ (by decide)]
  refine j_aload_n dX6_init_14 rfl rfl ?_
  refine j_iconst (v := 0) dX6_init_15 (by decide) ?_
  refine j_newB (a := 3) rfl rfl rfl rfl (by decide) dX6_init_16 (nin hfr (by decide) (by decide)) (by unfold lit; omega) (by decide) (by decide) (canon (by decide) ?_)
  refine pR6_18 rfl dX6_init_18 ?_
  rw [upr_s]
  refine j_aload_n dX6_init_21 rfl rfl ?_
  refine j_iconst (v := 0) dX6_init_22 (by decide) ?_
  refine pI6_22 rfl dX6_init_23 ?_
  rw [up_s0 _ _ (by decide)]
  refine j_aload_n dX6_init_26 rfl rfl ?_
  refine j_iconst (v := 0) dX6_init_27 (by decide) ?_
  refine pI6_25 rfl dX6_init_28 ?_
  rw [up_s0 _ _ (by decide)]
  refine j_aload_n dX6_init_31 rfl rfl ?_
  refine j_iconst (v := 0) dX6_init_32 (by decide) ?_
  refine pI6_28 rfl dX6_init_33 ?_
  rw [up_s0 _ _ (by decide)]
  refine j_aload_n dX6_init_36 rfl rfl ?_
  refine j_iconst (v := 0) dX6_init_37 (by decide) ?_
  refine pI6_31 rfl dX6_init_38 ?_
  rw [up_s0 _ _ (by decide)]
  refine j_aload_n dX6_init_41 rfl rfl ?_
  refine j_lconst (v := 0) dX6_init_42 (by decide) ?_
  refine pL6_34 rfl dX6_init_43 ?_
  rw [upl_s0 _ _ (by decide)]
  refine j_aload_n dX6_init_46 rfl rfl ?_
  refine j_iconst (v := 0) dX6_init_47 (by decide) ?_
  refine pI6_38 rfl dX6_init_48 ?_
  rw [up_s0 _ _ (by decide)]
  refine j_aload_n dX6_init_51 rfl rfl ?_
  refine j_bipush (v := 7) dX6_init_52 (by decide) ?_
  refine j_newL (a := 4) rfl rfl rfl rfl (by decide) dX6_init_54 (nin hfr (by decide) (by decide)) (by unfold lit; omega) (by decide) (by decide) (canon (by decide) ?_)
  refine pR6_41 rfl rfl dX6_init_56 ?_
  rw [upr_s]
  refine j_aload_n dX6_init_59 rfl rfl ?_
  refine j_bipush (v := 17) dX6_init_60 (by decide) ?_
  refine j_newL (a := 5) rfl rfl rfl rfl (by decide) dX6_init_62 (nin hfr (by decide) (by decide)) (by unfold lit; omega) (by decide) (by decide) (canon (by decide) ?_)
  refine pR6_45 rfl rfl dX6_init_64 ?_
  rw [upr_s]
  refine j_aload_n dX6_init_67 rfl rfl ?_
  refine j_bipush (v := 17) dX6_init_68 (by decide) ?_
  refine j_newI (a := 6) rfl rfl rfl rfl (by decide) dX6_init_70 (nin hfr (by decide) (by decide)) (by unfold lit; omega) (by decide) (by decide) (canon (by decide) ?_)
  refine pR6_48 rfl rfl dX6_init_72 ?_
  rw [upr_s]
  refine j_aload_n dX6_init_75 rfl rfl ?_
  refine j_bipush (v := 17) dX6_init_76 (by decide) ?_
  refine j_newI (a := 7) rfl rfl rfl rfl (by decide) dX6_init_78 (nin hfr (by decide) (by decide)) (by unfold lit; omega) (by decide) (by decide) (canon (by decide) ?_)
  refine pR6_52 rfl rfl dX6_init_80 ?_
  rw [upr_s]
  refine j_aload_n dX6_init_83 rfl rfl ?_
  refine j_iconst (v := 0) dX6_init_84 (by decide) ?_
  refine pI6_55 rfl dX6_init_85 ?_
  rw [up_s0 _ _ (by decide)]
  refine j_aload_n dX6_init_88 rfl rfl ?_
  refine gR6_41 rfl dX6_init_89 rfl ?_
  refine j_iconst (v := 0) dX6_init_92 (by decide) ?_
  refine j_ldcS6_58 dX6_init_93 ?_
  refine cS6_60 (d1 := 6) dX6_init_95 (by decide) (Nat.le_of_ble_eq_true rfl) ?_
  refine c_code (i := 0) (by decide) ?_
  refine j_last rfl (inT (n := 0) (N := 7) rfl (by decide) (by decide)) dX6_init_98 ?_
  rw [show ((0 : Int32).toNatClampNeg) = 0 from rfl]
  refine j_aload_n dX6_init_99 rfl rfl ?_
  refine gR6_41 rfl dX6_init_100 rfl ?_
  refine j_iconst (v := 1) dX6_init_103 (by decide) ?_
  refine j_ldcS6_64 dX6_init_104 ?_
  refine cS6_60 (d1 := 6) dX6_init_106 (by decide) (Nat.le_of_ble_eq_true rfl) ?_
  refine c_code (i := 1) (by decide) ?_
  refine j_last rfl (inT (n := 1) (N := 7) rfl (by decide) (by decide)) dX6_init_109 ?_
  rw [show ((1 : Int32).toNatClampNeg) = 1 from rfl]
  refine j_aload_n dX6_init_110 rfl rfl ?_
  refine gR6_41 rfl dX6_init_111 rfl ?_
  refine j_iconst (v := 2) dX6_init_114 (by decide) ?_
  refine j_ldcS6_66 dX6_init_115 ?_
  refine cS6_60 (d1 := 6) dX6_init_117 (by decide) (Nat.le_of_ble_eq_true rfl) ?_
  refine c_code (i := 2) (by decide) ?_
  refine j_last rfl (inT (n := 2) (N := 7) rfl (by decide) (by decide)) dX6_init_120 ?_
  rw [show ((2 : Int32).toNatClampNeg) = 2 from rfl]
  refine j_aload_n dX6_init_121 rfl rfl ?_
  refine gR6_41 rfl dX6_init_122 rfl ?_
  refine j_iconst (v := 3) dX6_init_125 (by decide) ?_
  refine j_ldcS6_68 dX6_init_126 ?_
  refine cS6_60 (d1 := 6) dX6_init_128 (by decide) (Nat.le_of_ble_eq_true rfl) ?_
  refine c_code (i := 3) (by decide) ?_
  refine j_last rfl (inT (n := 3) (N := 7) rfl (by decide) (by decide)) dX6_init_131 ?_
  rw [show ((3 : Int32).toNatClampNeg) = 3 from rfl]
  refine j_aload_n dX6_init_132 rfl rfl ?_
  refine gR6_41 rfl dX6_init_133 rfl ?_
  refine j_iconst (v := 4) dX6_init_136 (by decide) ?_
  refine j_ldcS6_70 dX6_init_137 ?_
  refine cS6_60 (d1 := 6) dX6_init_139 (by decide) (Nat.le_of_ble_eq_true rfl) ?_
  refine c_code (i := 4) (by decide) ?_
  refine j_last rfl (inT (n := 4) (N := 7) rfl (by decide) (by decide)) dX6_init_142 ?_
  rw [show ((4 : Int32).toNatClampNeg) = 4 from rfl]
  refine j_aload_n dX6_init_143 rfl rfl ?_
  refine gR6_41 rfl dX6_init_144 rfl ?_
  refine j_iconst (v := 5) dX6_init_147 (by decide) ?_
  refine j_ldcS6_72 dX6_init_148 ?_
  refine cS6_60 (d1 := 6) dX6_init_150 (by decide) (Nat.le_of_ble_eq_true rfl) ?_
  refine c_code (i := 5) (by decide) ?_
  refine j_last rfl (inT (n := 5) (N := 7) rfl (by decide) (by decide)) dX6_init_153 ?_
  rw [show ((5 : Int32).toNatClampNeg) = 5 from rfl]
  refine j_aload_n dX6_init_154 rfl rfl ?_
  refine gR6_41 rfl dX6_init_155 rfl ?_
  refine j_bipush (v := 6) dX6_init_158 (by decide) ?_
  refine j_ldcS6_74 dX6_init_160 ?_
  refine cS6_60 (d1 := 6) dX6_init_162 (by decide) (Nat.le_of_ble_eq_true rfl) ?_
  refine c_code (i := 6) (by decide) ?_
  refine j_last rfl (inT (n := 6) (N := 7) rfl (by decide) (by decide)) dX6_init_165 ?_
  rw [show ((6 : Int32).toNatClampNeg) = 6 from rfl]
  refine j_vret rfl dX6_init_166 ?_
  exact hp
def TB (T : Nat) : List Nat := (List.range 60).map (fun k => T + k)
theorem k_town100  (hfr : ∀ n ∈ dom, n ∉ (TB 100)) (hGA : GA G) (hp : post none (clrs mi [100, 101, 102, 103, 104, 105, 106, 107, 108, 109, 110, 120, 111, 121, 112, 122, 113, 123, 114, 124, 115, 125, 130, 131, 132, 133, 134, 140, 141, 142, 143, 144, 145, 146, 147, 150, 151, 152, 153, 154]) (clrsl ml [100, 101, 102, 103, 104, 105, 106, 107, 108, 109, 110, 120, 111, 121, 112, 122, 113, 123, 114, 124, 115, 125, 130, 131, 132, 133, 134, 140, 141, 142, 143, 144, 145, 146, 147, 150, 151, 152, 153, 154]) (rs mr [100, 101, 102, 103, 104, 105, 106, 107, 108, 109, 110, 120, 111, 121, 112, 122, 113, 123, 114, 124, 115, 125, 130, 131, 132, 133, 134, 140, 141, 142, 143, 144, 145, 146, 147, 150, 151, 152, 153, 154] [(108, 4, 154), (108, 3, 153), (108, 2, 152), (108, 1, 151), (108, 0, 150), (107, 7, 147), (107, 6, 146), (107, 5, 145), (107, 4, 144), (107, 3, 143), (107, 2, 142), (107, 1, 141), (107, 0, 140), (106, 4, 134), (106, 3, 133), (106, 2, 132), (106, 1, 131), (106, 0, 130), (105, 5, 115), (115, 3, 125), (105, 4, 114), (114, 3, 124), (105, 3, 113), (113, 3, 123), (105, 2, 112), (112, 3, 122), (105, 1, 111), (111, 3, 121), (105, 0, 110), (110, 3, 120), (100, 15, 109), (100, 14, 108), (100, 13, 107), (100, 12, 106), (100, 11, 105), (100, 10, 102), (102, 2, 104), (102, 1, 103), (100, 9, 101)]) (dom ++ [100, 101, 102, 103, 104, 105, 106, 107, 108, 109, 110, 120, 111, 121, 112, 122, 113, 123, 114, 124, 115, 125, 130, 131, 132, 133, 134, 140, 141, 142, 143, 144, 145, 146, 147, 150, 151, 152, 153, 154])) : CT G 3 39 220 yX9_init cX9_init 2 none [.ref 100] (clr mi 100) (clrl ml 100) (clrr mr 100) (dom ++ [100]) post := by
  rw [clr_1, clrl_1, clrr_1]
  refine enter 1 (by decide) rfl rfl (fun X => ?_)
  refine j_aload_n dX9_init_0 rfl rfl ?_
  refine oI9_3 dX9_init_1 (by decide) (Nat.le_of_ble_eq_true rfl) ?_
  refine j_aload_n dX9_init_4 rfl rfl ?_
  refine j_iconst (v := 0) dX9_init_5 (by decide) ?_
  refine pI9_9 rfl (by decide) dX9_init_6 ?_
  rw [up_s0 _ _ (by decide)]
  refine j_aload_n dX9_init_9 rfl rfl ?_
  refine j_iconst (v := 0) dX9_init_10 (by decide) ?_
  refine pI9_15 rfl dX9_init_11 ?_
  rw [up_s0 _ _ (by decide)]
  refine j_aload_n dX9_init_14 rfl rfl ?_
  refine j_iconst (v := 0) dX9_init_15 (by decide) ?_
  refine pI9_19 rfl dX9_init_16 ?_
  rw [up_s0 _ _ (by decide)]
  refine j_aload_n dX9_init_19 rfl rfl ?_
  refine j_iconst (v := 0) dX9_init_20 (by decide) ?_
  refine pI9_22 rfl dX9_init_21 ?_
  rw [up_s0 _ _ (by decide)]
  refine j_aload_n dX9_init_24 rfl rfl ?_
  refine j_iconst (v := 0) dX9_init_25 (by decide) ?_
  refine pI9_25 rfl dX9_init_26 ?_
  rw [up_s0 _ _ (by decide)]
  refine j_aload_n dX9_init_29 rfl rfl ?_
  refine j_iconst (v := 0) dX9_init_30 (by decide) ?_
  refine pI9_28 rfl dX9_init_31 ?_
  rw [up_s0 _ _ (by decide)]
  refine j_aload_n dX9_init_34 rfl rfl ?_
  refine j_iconst (v := 0) dX9_init_35 (by decide) ?_
  refine pI9_31 rfl dX9_init_36 ?_
  rw [up_s0 _ _ (by decide)]
  refine j_aload_n dX9_init_39 rfl rfl ?_
  refine j_iconst (v := 0) dX9_init_40 (by decide) ?_
  refine pI9_34 rfl dX9_init_41 ?_
  rw [up_s0 _ _ (by decide)]
  refine j_aload_n dX9_init_44 rfl rfl ?_
  refine j_iconst (v := 0) dX9_init_45 (by decide) ?_
  refine pI9_37 rfl dX9_init_46 ?_
  rw [up_s0 _ _ (by decide)]
  refine j_aload_n dX9_init_49 rfl rfl ?_
  refine j_bipush (v := 6) dX9_init_50 (by decide) ?_
  refine j_newI (a := 101) rfl rfl rfl rfl (by decide) dX9_init_52 (nin hfr (by decide) (by decide)) (by unfold lit; omega) (by decide) (by decide) (canon (by decide) ?_)
  refine pR9_40 rfl rfl dX9_init_54 ?_
  rw [upr_s]
  refine j_aload_n dX9_init_57 rfl rfl ?_
  refine n9_44 (a := 102) rfl dX9_init_58 (nin hfr (by decide) (by decide)) (by unfold lit; omega) (by decide) (by decide) (canon (by decide) ?_)
  refine j_dup dX9_init_61 rfl ?_
  refine cI9_46 (d1 := 2) (mc1 := 2) (ms1 := 72) dX9_init_62 (by decide) (by decide) (by decide) (Nat.le_of_ble_eq_true rfl) ?_
  refine k_lanes (a := 102) hfr (by decide) rfl rfl rfl rfl rfl (by decide) (by decide) (by decide) (by decide) (by unfold lit; omega) (by unfold lit; omega) (by decide) (by decide) ?_
  refine pR9_47 rfl rfl dX9_init_65 ?_
  rw [upr_s]
  refine j_aload_n dX9_init_68 rfl rfl ?_
  refine j_bipush (v := 6) dX9_init_69 (by decide) ?_
  refine nq9_51 (a := 105) hGA rfl rfl rfl (by decide) dX9_init_71 (nin hfr (by decide) (by decide)) (by unfold lit; omega) (by decide) (by decide) (canon (by decide) ?_)
  refine pR9_53 rfl rfl dX9_init_74 ?_
  rw [upr_s]
  refine j_aload_n dX9_init_77 rfl rfl ?_
  refine j_iconst (v := 5) dX9_init_78 (by decide) ?_
  refine nq9_57 (a := 106) hGA rfl rfl rfl (by decide) dX9_init_79 (nin hfr (by decide) (by decide)) (by unfold lit; omega) (by decide) (by decide) (canon (by decide) ?_)
  refine pR9_59 rfl rfl dX9_init_82 ?_
  rw [upr_s]
  refine j_aload_n dX9_init_85 rfl rfl ?_
  refine j_bipush (v := 8) dX9_init_86 (by decide) ?_
  refine nq9_63 (a := 107) hGA rfl rfl rfl (by decide) dX9_init_88 (nin hfr (by decide) (by decide)) (by unfold lit; omega) (by decide) (by decide) (canon (by decide) ?_)
  refine pR9_65 rfl rfl dX9_init_91 ?_
  rw [upr_s]
  refine j_aload_n dX9_init_94 rfl rfl ?_
  refine j_iconst (v := 5) dX9_init_95 (by decide) ?_
  refine nq9_69 (a := 108) hGA rfl rfl rfl (by decide) dX9_init_96 (nin hfr (by decide) (by decide)) (by unfold lit; omega) (by decide) (by decide) (canon (by decide) ?_)
  refine pR9_71 rfl rfl dX9_init_99 ?_
  rw [upr_s]
  refine j_aload_n dX9_init_102 rfl rfl ?_
  refine j_bipush (v := 6) dX9_init_103 (by decide) ?_
  refine j_newI (a := 109) rfl rfl rfl rfl (by decide) dX9_init_105 (nin hfr (by decide) (by decide)) (by unfold lit; omega) (by decide) (by decide) (canon (by decide) ?_)
  refine pR9_75 rfl rfl dX9_init_107 ?_
  rw [upr_s]
  refine j_iconst (v := nI 0) dX9_init_110 (by decide) ?_
  refine j_istore_n (lv2 := [_, _]) dX9_init_111 rfl (by decide) rfl rfl ?_
  refine j_iload_n dX9_init_112 rfl rfl ?_
  refine j_bipush (v := 6) dX9_init_113 (by decide) ?_
  refine j_icmp_ge (tgt := 137) dX9_init_115 (by decide) (fun h115 => absurd h115 (by decide)) (fun _ => ?_)
  refine j_aload_n dX9_init_118 rfl rfl ?_
  refine gR9_53 rfl dX9_init_119 rfl ?_
  refine j_iload_n dX9_init_122 rfl rfl ?_
  refine n9_51 (a := 110) rfl dX9_init_123 (nin hfr (by decide) (by decide)) (by unfold lit; omega) (by decide) (by decide) (canon (by decide) ?_)
  refine j_dup dX9_init_126 rfl ?_
  refine cI9_78 (d1 := 2) (mc1 := 1) (ms1 := 5) dX9_init_127 (by decide) (by decide) (by decide) (Nat.le_of_ble_eq_true rfl) ?_
  refine k_person (a := 110) hfr (by decide) rfl rfl rfl (by decide) (by decide) (by unfold lit; omega) (by decide) ?_
  refine j_aast rfl (by decide) (by decide) (fun _ => rfl) rfl (by decide) rfl (inT rfl (by decide) (by decide)) dX9_init_130 ?_
  rw [nI_clamp (by decide), upr_s]
  refine j_iinc1 (lv2 := [_, _]) dX9_init_131 rfl (by decide) rfl rfl ?_
  rw [nI_1]
  refine j_goto (tgt := 112) dX9_init_134 (by decide) ?_
  refine j_iload_n dX9_init_112 rfl rfl ?_
  refine j_bipush (v := 6) dX9_init_113 (by decide) ?_
  refine j_icmp_ge (tgt := 137) dX9_init_115 (by decide) (fun h115 => absurd h115 (by decide)) (fun _ => ?_)
  refine j_aload_n dX9_init_118 rfl rfl ?_
  refine gR9_53 rfl dX9_init_119 rfl ?_
  refine j_iload_n dX9_init_122 rfl rfl ?_
  refine n9_51 (a := 111) rfl dX9_init_123 (nin hfr (by decide) (by decide)) (by unfold lit; omega) (by decide) (by decide) (canon (by decide) ?_)
  refine j_dup dX9_init_126 rfl ?_
  refine cI9_78 (d1 := 2) (mc1 := 1) (ms1 := 5) dX9_init_127 (by decide) (by decide) (by decide) (Nat.le_of_ble_eq_true rfl) ?_
  refine k_person (a := 111) hfr (by decide) rfl rfl rfl (by decide) (by decide) (by unfold lit; omega) (by decide) ?_
  refine j_aast rfl (by decide) (by decide) (fun _ => rfl) rfl (by decide) rfl (inT rfl (by decide) (by decide)) dX9_init_130 ?_
  rw [nI_clamp (by decide), upr_s]
  refine j_iinc1 (lv2 := [_, _]) dX9_init_131 rfl (by decide) rfl rfl ?_
  rw [nI_1]
  refine j_goto (tgt := 112) dX9_init_134 (by decide) ?_
  refine j_iload_n dX9_init_112 rfl rfl ?_
  refine j_bipush (v := 6) dX9_init_113 (by decide) ?_
  refine j_icmp_ge (tgt := 137) dX9_init_115 (by decide) (fun h115 => absurd h115 (by decide)) (fun _ => ?_)
  refine j_aload_n dX9_init_118 rfl rfl ?_
  refine gR9_53 rfl dX9_init_119 rfl ?_
  refine j_iload_n dX9_init_122 rfl rfl ?_
  refine n9_51 (a := 112) rfl dX9_init_123 (nin hfr (by decide) (by decide)) (by unfold lit; omega) (by decide) (by decide) (canon (by decide) ?_)
  refine j_dup dX9_init_126 rfl ?_
  refine cI9_78 (d1 := 2) (mc1 := 1) (ms1 := 5) dX9_init_127 (by decide) (by decide) (by decide) (Nat.le_of_ble_eq_true rfl) ?_
  refine k_person (a := 112) hfr (by decide) rfl rfl rfl (by decide) (by decide) (by unfold lit; omega) (by decide) ?_
  refine j_aast rfl (by decide) (by decide) (fun _ => rfl) rfl (by decide) rfl (inT rfl (by decide) (by decide)) dX9_init_130 ?_
  rw [nI_clamp (by decide), upr_s]
  refine j_iinc1 (lv2 := [_, _]) dX9_init_131 rfl (by decide) rfl rfl ?_
  rw [nI_1]
  refine j_goto (tgt := 112) dX9_init_134 (by decide) ?_
  refine j_iload_n dX9_init_112 rfl rfl ?_
  refine j_bipush (v := 6) dX9_init_113 (by decide) ?_
  refine j_icmp_ge (tgt := 137) dX9_init_115 (by decide) (fun h115 => absurd h115 (by decide)) (fun _ => ?_)
  refine j_aload_n dX9_init_118 rfl rfl ?_
  refine gR9_53 rfl dX9_init_119 rfl ?_
  refine j_iload_n dX9_init_122 rfl rfl ?_
  refine n9_51 (a := 113) rfl dX9_init_123 (nin hfr (by decide) (by decide)) (by unfold lit; omega) (by decide) (by decide) (canon (by decide) ?_)
  refine j_dup dX9_init_126 rfl ?_
  refine cI9_78 (d1 := 2) (mc1 := 1) (ms1 := 5) dX9_init_127 (by decide) (by decide) (by decide) (Nat.le_of_ble_eq_true rfl) ?_
  refine k_person (a := 113) hfr (by decide) rfl rfl rfl (by decide) (by decide) (by unfold lit; omega) (by decide) ?_
  refine j_aast rfl (by decide) (by decide) (fun _ => rfl) rfl (by decide) rfl (inT rfl (by decide) (by decide)) dX9_init_130 ?_
  rw [nI_clamp (by decide), upr_s]
  refine j_iinc1 (lv2 := [_, _]) dX9_init_131 rfl (by decide) rfl rfl ?_
  rw [nI_1]
  refine j_goto (tgt := 112) dX9_init_134 (by decide) ?_
  refine j_iload_n dX9_init_112 rfl rfl ?_
  refine j_bipush (v := 6) dX9_init_113 (by decide) ?_
  refine j_icmp_ge (tgt := 137) dX9_init_115 (by decide) (fun h115 => absurd h115 (by decide)) (fun _ => ?_)
  refine j_aload_n dX9_init_118 rfl rfl ?_
  refine gR9_53 rfl dX9_init_119 rfl ?_
  refine j_iload_n dX9_init_122 rfl rfl ?_
  refine n9_51 (a := 114) rfl dX9_init_123 (nin hfr (by decide) (by decide)) (by unfold lit; omega) (by decide) (by decide) (canon (by decide) ?_)
  refine j_dup dX9_init_126 rfl ?_
  refine cI9_78 (d1 := 2) (mc1 := 1) (ms1 := 5) dX9_init_127 (by decide) (by decide) (by decide) (Nat.le_of_ble_eq_true rfl) ?_
  refine k_person (a := 114) hfr (by decide) rfl rfl rfl (by decide) (by decide) (by unfold lit; omega) (by decide) ?_
  refine j_aast rfl (by decide) (by decide) (fun _ => rfl) rfl (by decide) rfl (inT rfl (by decide) (by decide)) dX9_init_130 ?_
  rw [nI_clamp (by decide), upr_s]
  refine j_iinc1 (lv2 := [_, _]) dX9_init_131 rfl (by decide) rfl rfl ?_
  rw [nI_1]
  refine j_goto (tgt := 112) dX9_init_134 (by decide) ?_
  refine j_iload_n dX9_init_112 rfl rfl ?_
  refine j_bipush (v := 6) dX9_init_113 (by decide) ?_
  refine j_icmp_ge (tgt := 137) dX9_init_115 (by decide) (fun h115 => absurd h115 (by decide)) (fun _ => ?_)
  refine j_aload_n dX9_init_118 rfl rfl ?_
  refine gR9_53 rfl dX9_init_119 rfl ?_
  refine j_iload_n dX9_init_122 rfl rfl ?_
  refine n9_51 (a := 115) rfl dX9_init_123 (nin hfr (by decide) (by decide)) (by unfold lit; omega) (by decide) (by decide) (canon (by decide) ?_)
  refine j_dup dX9_init_126 rfl ?_
  refine cI9_78 (d1 := 2) (mc1 := 1) (ms1 := 5) dX9_init_127 (by decide) (by decide) (by decide) (Nat.le_of_ble_eq_true rfl) ?_
  refine k_person (a := 115) hfr (by decide) rfl rfl rfl (by decide) (by decide) (by unfold lit; omega) (by decide) ?_
  refine j_aast rfl (by decide) (by decide) (fun _ => rfl) rfl (by decide) rfl (inT rfl (by decide) (by decide)) dX9_init_130 ?_
  rw [nI_clamp (by decide), upr_s]
  refine j_iinc1 (lv2 := [_, _]) dX9_init_131 rfl (by decide) rfl rfl ?_
  rw [nI_1]
  refine j_goto (tgt := 112) dX9_init_134 (by decide) ?_
  refine j_iload_n dX9_init_112 rfl rfl ?_
  refine j_bipush (v := 6) dX9_init_113 (by decide) ?_
  refine j_icmp_ge (tgt := 137) dX9_init_115 (by decide) (fun _ => ?_) (fun h115 => absurd (by decide) h115)
  refine j_iconst (v := nI 0) dX9_init_137 (by decide) ?_
  refine j_istore_n (lv2 := [_, _]) dX9_init_138 rfl (by decide) rfl rfl ?_
  refine j_iload_n dX9_init_139 rfl rfl ?_
  refine j_iconst (v := 5) dX9_init_140 (by decide) ?_
  refine j_icmp_ge (tgt := 163) dX9_init_141 (by decide) (fun h141 => absurd h141 (by decide)) (fun _ => ?_)
  refine j_aload_n dX9_init_144 rfl rfl ?_
  refine gR9_59 rfl dX9_init_145 rfl ?_
  refine j_iload_n dX9_init_148 rfl rfl ?_
  refine n9_57 (a := 130) rfl dX9_init_149 (nin hfr (by decide) (by decide)) (by unfold lit; omega) (by decide) (by decide) (canon (by decide) ?_)
  refine j_dup dX9_init_152 rfl ?_
  refine cI9_79 (d1 := 2) (mc1 := 0) (ms1 := 0) dX9_init_153 (by decide) (by decide) (by decide) (Nat.le_of_ble_eq_true rfl) ?_
  refine k_good (a := 130) hfr (by decide) rfl ?_
  refine j_aast rfl (by decide) (by decide) (fun _ => rfl) rfl (by decide) rfl (inT rfl (by decide) (by decide)) dX9_init_156 ?_
  rw [nI_clamp (by decide), upr_s]
  refine j_iinc1 (lv2 := [_, _]) dX9_init_157 rfl (by decide) rfl rfl ?_
  rw [nI_1]
  refine j_goto (tgt := 139) dX9_init_160 (by decide) ?_
  refine j_iload_n dX9_init_139 rfl rfl ?_
  refine j_iconst (v := 5) dX9_init_140 (by decide) ?_
  refine j_icmp_ge (tgt := 163) dX9_init_141 (by decide) (fun h141 => absurd h141 (by decide)) (fun _ => ?_)
  refine j_aload_n dX9_init_144 rfl rfl ?_
  refine gR9_59 rfl dX9_init_145 rfl ?_
  refine j_iload_n dX9_init_148 rfl rfl ?_
  refine n9_57 (a := 131) rfl dX9_init_149 (nin hfr (by decide) (by decide)) (by unfold lit; omega) (by decide) (by decide) (canon (by decide) ?_)
  refine j_dup dX9_init_152 rfl ?_
  refine cI9_79 (d1 := 2) (mc1 := 0) (ms1 := 0) dX9_init_153 (by decide) (by decide) (by decide) (Nat.le_of_ble_eq_true rfl) ?_
  refine k_good (a := 131) hfr (by decide) rfl ?_
  refine j_aast rfl (by decide) (by decide) (fun _ => rfl) rfl (by decide) rfl (inT rfl (by decide) (by decide)) dX9_init_156 ?_
  rw [nI_clamp (by decide), upr_s]
  refine j_iinc1 (lv2 := [_, _]) dX9_init_157 rfl (by decide) rfl rfl ?_
  rw [nI_1]
  refine j_goto (tgt := 139) dX9_init_160 (by decide) ?_
  refine j_iload_n dX9_init_139 rfl rfl ?_
  refine j_iconst (v := 5) dX9_init_140 (by decide) ?_
  refine j_icmp_ge (tgt := 163) dX9_init_141 (by decide) (fun h141 => absurd h141 (by decide)) (fun _ => ?_)
  refine j_aload_n dX9_init_144 rfl rfl ?_
  refine gR9_59 rfl dX9_init_145 rfl ?_
  refine j_iload_n dX9_init_148 rfl rfl ?_
  refine n9_57 (a := 132) rfl dX9_init_149 (nin hfr (by decide) (by decide)) (by unfold lit; omega) (by decide) (by decide) (canon (by decide) ?_)
  refine j_dup dX9_init_152 rfl ?_
  refine cI9_79 (d1 := 2) (mc1 := 0) (ms1 := 0) dX9_init_153 (by decide) (by decide) (by decide) (Nat.le_of_ble_eq_true rfl) ?_
  refine k_good (a := 132) hfr (by decide) rfl ?_
  refine j_aast rfl (by decide) (by decide) (fun _ => rfl) rfl (by decide) rfl (inT rfl (by decide) (by decide)) dX9_init_156 ?_
  rw [nI_clamp (by decide), upr_s]
  refine j_iinc1 (lv2 := [_, _]) dX9_init_157 rfl (by decide) rfl rfl ?_
  rw [nI_1]
  refine j_goto (tgt := 139) dX9_init_160 (by decide) ?_
  refine j_iload_n dX9_init_139 rfl rfl ?_
  refine j_iconst (v := 5) dX9_init_140 (by decide) ?_
  refine j_icmp_ge (tgt := 163) dX9_init_141 (by decide) (fun h141 => absurd h141 (by decide)) (fun _ => ?_)
  refine j_aload_n dX9_init_144 rfl rfl ?_
  refine gR9_59 rfl dX9_init_145 rfl ?_
  refine j_iload_n dX9_init_148 rfl rfl ?_
  refine n9_57 (a := 133) rfl dX9_init_149 (nin hfr (by decide) (by decide)) (by unfold lit; omega) (by decide) (by decide) (canon (by decide) ?_)
  refine j_dup dX9_init_152 rfl ?_
  refine cI9_79 (d1 := 2) (mc1 := 0) (ms1 := 0) dX9_init_153 (by decide) (by decide) (by decide) (Nat.le_of_ble_eq_true rfl) ?_
  refine k_good (a := 133) hfr (by decide) rfl ?_
  refine j_aast rfl (by decide) (by decide) (fun _ => rfl) rfl (by decide) rfl (inT rfl (by decide) (by decide)) dX9_init_156 ?_
  rw [nI_clamp (by decide), upr_s]
  refine j_iinc1 (lv2 := [_, _]) dX9_init_157 rfl (by decide) rfl rfl ?_
  rw [nI_1]
  refine j_goto (tgt := 139) dX9_init_160 (by decide) ?_
  refine j_iload_n dX9_init_139 rfl rfl ?_
  refine j_iconst (v := 5) dX9_init_140 (by decide) ?_
  refine j_icmp_ge (tgt := 163) dX9_init_141 (by decide) (fun h141 => absurd h141 (by decide)) (fun _ => ?_)
  refine j_aload_n dX9_init_144 rfl rfl ?_
  refine gR9_59 rfl dX9_init_145 rfl ?_
  refine j_iload_n dX9_init_148 rfl rfl ?_
  refine n9_57 (a := 134) rfl dX9_init_149 (nin hfr (by decide) (by decide)) (by unfold lit; omega) (by decide) (by decide) (canon (by decide) ?_)
  refine j_dup dX9_init_152 rfl ?_
  refine cI9_79 (d1 := 2) (mc1 := 0) (ms1 := 0) dX9_init_153 (by decide) (by decide) (by decide) (Nat.le_of_ble_eq_true rfl) ?_
  refine k_good (a := 134) hfr (by decide) rfl ?_
  refine j_aast rfl (by decide) (by decide) (fun _ => rfl) rfl (by decide) rfl (inT rfl (by decide) (by decide)) dX9_init_156 ?_
  rw [nI_clamp (by decide), upr_s]
  refine j_iinc1 (lv2 := [_, _]) dX9_init_157 rfl (by decide) rfl rfl ?_
  rw [nI_1]
  refine j_goto (tgt := 139) dX9_init_160 (by decide) ?_
  refine j_iload_n dX9_init_139 rfl rfl ?_
  refine j_iconst (v := 5) dX9_init_140 (by decide) ?_
  refine j_icmp_ge (tgt := 163) dX9_init_141 (by decide) (fun _ => ?_) (fun h141 => absurd (by decide) h141)
  refine j_iconst (v := nI 0) dX9_init_163 (by decide) ?_
  refine j_istore_n (lv2 := [_, _]) dX9_init_164 rfl (by decide) rfl rfl ?_
  refine j_iload_n dX9_init_165 rfl rfl ?_
  refine j_bipush (v := 8) dX9_init_166 (by decide) ?_
  refine j_icmp_ge (tgt := 190) dX9_init_168 (by decide) (fun h168 => absurd h168 (by decide)) (fun _ => ?_)
  refine j_aload_n dX9_init_171 rfl rfl ?_
  refine gR9_65 rfl dX9_init_172 rfl ?_
  refine j_iload_n dX9_init_175 rfl rfl ?_
  refine n9_63 (a := 140) rfl dX9_init_176 (nin hfr (by decide) (by decide)) (by unfold lit; omega) (by decide) (by decide) (canon (by decide) ?_)
  refine j_dup dX9_init_179 rfl ?_
  refine cI9_80 (d1 := 2) (mc1 := 0) (ms1 := 0) dX9_init_180 (by decide) (by decide) (by decide) (Nat.le_of_ble_eq_true rfl) ?_
  refine k_visit (a := 140) hfr (by decide) rfl ?_
  refine j_aast rfl (by decide) (by decide) (fun _ => rfl) rfl (by decide) rfl (inT rfl (by decide) (by decide)) dX9_init_183 ?_
  rw [nI_clamp (by decide), upr_s]
  refine j_iinc1 (lv2 := [_, _]) dX9_init_184 rfl (by decide) rfl rfl ?_
  rw [nI_1]
  refine j_goto (tgt := 165) dX9_init_187 (by decide) ?_
  refine j_iload_n dX9_init_165 rfl rfl ?_
  refine j_bipush (v := 8) dX9_init_166 (by decide) ?_
  refine j_icmp_ge (tgt := 190) dX9_init_168 (by decide) (fun h168 => absurd h168 (by decide)) (fun _ => ?_)
  refine j_aload_n dX9_init_171 rfl rfl ?_
  refine gR9_65 rfl dX9_init_172 rfl ?_
  refine j_iload_n dX9_init_175 rfl rfl ?_
  refine n9_63 (a := 141) rfl dX9_init_176 (nin hfr (by decide) (by decide)) (by unfold lit; omega) (by decide) (by decide) (canon (by decide) ?_)
  refine j_dup dX9_init_179 rfl ?_
  refine cI9_80 (d1 := 2) (mc1 := 0) (ms1 := 0) dX9_init_180 (by decide) (by decide) (by decide) (Nat.le_of_ble_eq_true rfl) ?_
  refine k_visit (a := 141) hfr (by decide) rfl ?_
  refine j_aast rfl (by decide) (by decide) (fun _ => rfl) rfl (by decide) rfl (inT rfl (by decide) (by decide)) dX9_init_183 ?_
  rw [nI_clamp (by decide), upr_s]
  refine j_iinc1 (lv2 := [_, _]) dX9_init_184 rfl (by decide) rfl rfl ?_
  rw [nI_1]
  refine j_goto (tgt := 165) dX9_init_187 (by decide) ?_
  refine j_iload_n dX9_init_165 rfl rfl ?_
  refine j_bipush (v := 8) dX9_init_166 (by decide) ?_
  refine j_icmp_ge (tgt := 190) dX9_init_168 (by decide) (fun h168 => absurd h168 (by decide)) (fun _ => ?_)
  refine j_aload_n dX9_init_171 rfl rfl ?_
  refine gR9_65 rfl dX9_init_172 rfl ?_
  refine j_iload_n dX9_init_175 rfl rfl ?_
  refine n9_63 (a := 142) rfl dX9_init_176 (nin hfr (by decide) (by decide)) (by unfold lit; omega) (by decide) (by decide) (canon (by decide) ?_)
  refine j_dup dX9_init_179 rfl ?_
  refine cI9_80 (d1 := 2) (mc1 := 0) (ms1 := 0) dX9_init_180 (by decide) (by decide) (by decide) (Nat.le_of_ble_eq_true rfl) ?_
  refine k_visit (a := 142) hfr (by decide) rfl ?_
  refine j_aast rfl (by decide) (by decide) (fun _ => rfl) rfl (by decide) rfl (inT rfl (by decide) (by decide)) dX9_init_183 ?_
  rw [nI_clamp (by decide), upr_s]
  refine j_iinc1 (lv2 := [_, _]) dX9_init_184 rfl (by decide) rfl rfl ?_
  rw [nI_1]
  refine j_goto (tgt := 165) dX9_init_187 (by decide) ?_
  refine j_iload_n dX9_init_165 rfl rfl ?_
  refine j_bipush (v := 8) dX9_init_166 (by decide) ?_
  refine j_icmp_ge (tgt := 190) dX9_init_168 (by decide) (fun h168 => absurd h168 (by decide)) (fun _ => ?_)
  refine j_aload_n dX9_init_171 rfl rfl ?_
  refine gR9_65 rfl dX9_init_172 rfl ?_
  refine j_iload_n dX9_init_175 rfl rfl ?_
  refine n9_63 (a := 143) rfl dX9_init_176 (nin hfr (by decide) (by decide)) (by unfold lit; omega) (by decide) (by decide) (canon (by decide) ?_)
  refine j_dup dX9_init_179 rfl ?_
  refine cI9_80 (d1 := 2) (mc1 := 0) (ms1 := 0) dX9_init_180 (by decide) (by decide) (by decide) (Nat.le_of_ble_eq_true rfl) ?_
  refine k_visit (a := 143) hfr (by decide) rfl ?_
  refine j_aast rfl (by decide) (by decide) (fun _ => rfl) rfl (by decide) rfl (inT rfl (by decide) (by decide)) dX9_init_183 ?_
  rw [nI_clamp (by decide), upr_s]
  refine j_iinc1 (lv2 := [_, _]) dX9_init_184 rfl (by decide) rfl rfl ?_
  rw [nI_1]
  refine j_goto (tgt := 165) dX9_init_187 (by decide) ?_
  refine j_iload_n dX9_init_165 rfl rfl ?_
  refine j_bipush (v := 8) dX9_init_166 (by decide) ?_
  refine j_icmp_ge (tgt := 190) dX9_init_168 (by decide) (fun h168 => absurd h168 (by decide)) (fun _ => ?_)
  refine j_aload_n dX9_init_171 rfl rfl ?_
  refine gR9_65 rfl dX9_init_172 rfl ?_
  refine j_iload_n dX9_init_175 rfl rfl ?_
  refine n9_63 (a := 144) rfl dX9_init_176 (nin hfr (by decide) (by decide)) (by unfold lit; omega) (by decide) (by decide) (canon (by decide) ?_)
  refine j_dup dX9_init_179 rfl ?_
  refine cI9_80 (d1 := 2) (mc1 := 0) (ms1 := 0) dX9_init_180 (by decide) (by decide) (by decide) (Nat.le_of_ble_eq_true rfl) ?_
  refine k_visit (a := 144) hfr (by decide) rfl ?_
  refine j_aast rfl (by decide) (by decide) (fun _ => rfl) rfl (by decide) rfl (inT rfl (by decide) (by decide)) dX9_init_183 ?_
  rw [nI_clamp (by decide), upr_s]
  refine j_iinc1 (lv2 := [_, _]) dX9_init_184 rfl (by decide) rfl rfl ?_
  rw [nI_1]
  refine j_goto (tgt := 165) dX9_init_187 (by decide) ?_
  refine j_iload_n dX9_init_165 rfl rfl ?_
  refine j_bipush (v := 8) dX9_init_166 (by decide) ?_
  refine j_icmp_ge (tgt := 190) dX9_init_168 (by decide) (fun h168 => absurd h168 (by decide)) (fun _ => ?_)
  refine j_aload_n dX9_init_171 rfl rfl ?_
  refine gR9_65 rfl dX9_init_172 rfl ?_
  refine j_iload_n dX9_init_175 rfl rfl ?_
  refine n9_63 (a := 145) rfl dX9_init_176 (nin hfr (by decide) (by decide)) (by unfold lit; omega) (by decide) (by decide) (canon (by decide) ?_)
  refine j_dup dX9_init_179 rfl ?_
  refine cI9_80 (d1 := 2) (mc1 := 0) (ms1 := 0) dX9_init_180 (by decide) (by decide) (by decide) (Nat.le_of_ble_eq_true rfl) ?_
  refine k_visit (a := 145) hfr (by decide) rfl ?_
  refine j_aast rfl (by decide) (by decide) (fun _ => rfl) rfl (by decide) rfl (inT rfl (by decide) (by decide)) dX9_init_183 ?_
  rw [nI_clamp (by decide), upr_s]
  refine j_iinc1 (lv2 := [_, _]) dX9_init_184 rfl (by decide) rfl rfl ?_
  rw [nI_1]
  refine j_goto (tgt := 165) dX9_init_187 (by decide) ?_
  refine j_iload_n dX9_init_165 rfl rfl ?_
  refine j_bipush (v := 8) dX9_init_166 (by decide) ?_
  refine j_icmp_ge (tgt := 190) dX9_init_168 (by decide) (fun h168 => absurd h168 (by decide)) (fun _ => ?_)
  refine j_aload_n dX9_init_171 rfl rfl ?_
  refine gR9_65 rfl dX9_init_172 rfl ?_
  refine j_iload_n dX9_init_175 rfl rfl ?_
  refine n9_63 (a := 146) rfl dX9_init_176 (nin hfr (by decide) (by decide)) (by unfold lit; omega) (by decide) (by decide) (canon (by decide) ?_)
  refine j_dup dX9_init_179 rfl ?_
  refine cI9_80 (d1 := 2) (mc1 := 0) (ms1 := 0) dX9_init_180 (by decide) (by decide) (by decide) (Nat.le_of_ble_eq_true rfl) ?_
  refine k_visit (a := 146) hfr (by decide) rfl ?_
  refine j_aast rfl (by decide) (by decide) (fun _ => rfl) rfl (by decide) rfl (inT rfl (by decide) (by decide)) dX9_init_183 ?_
  rw [nI_clamp (by decide), upr_s]
  refine j_iinc1 (lv2 := [_, _]) dX9_init_184 rfl (by decide) rfl rfl ?_
  rw [nI_1]
  refine j_goto (tgt := 165) dX9_init_187 (by decide) ?_
  refine j_iload_n dX9_init_165 rfl rfl ?_
  refine j_bipush (v := 8) dX9_init_166 (by decide) ?_
  refine j_icmp_ge (tgt := 190) dX9_init_168 (by decide) (fun h168 => absurd h168 (by decide)) (fun _ => ?_)
  refine j_aload_n dX9_init_171 rfl rfl ?_
  refine gR9_65 rfl dX9_init_172 rfl ?_
  refine j_iload_n dX9_init_175 rfl rfl ?_
  refine n9_63 (a := 147) rfl dX9_init_176 (nin hfr (by decide) (by decide)) (by unfold lit; omega) (by decide) (by decide) (canon (by decide) ?_)
  refine j_dup dX9_init_179 rfl ?_
  refine cI9_80 (d1 := 2) (mc1 := 0) (ms1 := 0) dX9_init_180 (by decide) (by decide) (by decide) (Nat.le_of_ble_eq_true rfl) ?_
  refine k_visit (a := 147) hfr (by decide) rfl ?_
  refine j_aast rfl (by decide) (by decide) (fun _ => rfl) rfl (by decide) rfl (inT rfl (by decide) (by decide)) dX9_init_183 ?_
  rw [nI_clamp (by decide), upr_s]
  refine j_iinc1 (lv2 := [_, _]) dX9_init_184 rfl (by decide) rfl rfl ?_
  rw [nI_1]
  refine j_goto (tgt := 165) dX9_init_187 (by decide) ?_
  refine j_iload_n dX9_init_165 rfl rfl ?_
  refine j_bipush (v := 8) dX9_init_166 (by decide) ?_
  refine j_icmp_ge (tgt := 190) dX9_init_168 (by decide) (fun _ => ?_) (fun h168 => absurd (by decide) h168)
  refine j_iconst (v := nI 0) dX9_init_190 (by decide) ?_
  refine j_istore_n (lv2 := [_, _]) dX9_init_191 rfl (by decide) rfl rfl ?_
  refine j_iload_n dX9_init_192 rfl rfl ?_
  refine j_iconst (v := 5) dX9_init_193 (by decide) ?_
  refine j_icmp_ge (tgt := 216) dX9_init_194 (by decide) (fun h194 => absurd h194 (by decide)) (fun _ => ?_)
  refine j_aload_n dX9_init_197 rfl rfl ?_
  refine gR9_71 rfl dX9_init_198 rfl ?_
  refine j_iload_n dX9_init_201 rfl rfl ?_
  refine n9_69 (a := 150) rfl dX9_init_202 (nin hfr (by decide) (by decide)) (by unfold lit; omega) (by decide) (by decide) (canon (by decide) ?_)
  refine j_dup dX9_init_205 rfl ?_
  refine cI9_81 (d1 := 2) (mc1 := 0) (ms1 := 0) dX9_init_206 (by decide) (by decide) (by decide) (Nat.le_of_ble_eq_true rfl) ?_
  refine k_print (a := 150) hfr (by decide) rfl ?_
  refine j_aast rfl (by decide) (by decide) (fun _ => rfl) rfl (by decide) rfl (inT rfl (by decide) (by decide)) dX9_init_209 ?_
  rw [nI_clamp (by decide), upr_s]
  refine j_iinc1 (lv2 := [_, _]) dX9_init_210 rfl (by decide) rfl rfl ?_
  rw [nI_1]
  refine j_goto (tgt := 192) dX9_init_213 (by decide) ?_
  refine j_iload_n dX9_init_192 rfl rfl ?_
  refine j_iconst (v := 5) dX9_init_193 (by decide) ?_
  refine j_icmp_ge (tgt := 216) dX9_init_194 (by decide) (fun h194 => absurd h194 (by decide)) (fun _ => ?_)
  refine j_aload_n dX9_init_197 rfl rfl ?_
  refine gR9_71 rfl dX9_init_198 rfl ?_
  refine j_iload_n dX9_init_201 rfl rfl ?_
  refine n9_69 (a := 151) rfl dX9_init_202 (nin hfr (by decide) (by decide)) (by unfold lit; omega) (by decide) (by decide) (canon (by decide) ?_)
  refine j_dup dX9_init_205 rfl ?_
  refine cI9_81 (d1 := 2) (mc1 := 0) (ms1 := 0) dX9_init_206 (by decide) (by decide) (by decide) (Nat.le_of_ble_eq_true rfl) ?_
  refine k_print (a := 151) hfr (by decide) rfl ?_
  refine j_aast rfl (by decide) (by decide) (fun _ => rfl) rfl (by decide) rfl (inT rfl (by decide) (by decide)) dX9_init_209 ?_
  rw [nI_clamp (by decide), upr_s]
  refine j_iinc1 (lv2 := [_, _]) dX9_init_210 rfl (by decide) rfl rfl ?_
  rw [nI_1]
  refine j_goto (tgt := 192) dX9_init_213 (by decide) ?_
  refine j_iload_n dX9_init_192 rfl rfl ?_
  refine j_iconst (v := 5) dX9_init_193 (by decide) ?_
  refine j_icmp_ge (tgt := 216) dX9_init_194 (by decide) (fun h194 => absurd h194 (by decide)) (fun _ => ?_)
  refine j_aload_n dX9_init_197 rfl rfl ?_
  refine gR9_71 rfl dX9_init_198 rfl ?_
  refine j_iload_n dX9_init_201 rfl rfl ?_
  refine n9_69 (a := 152) rfl dX9_init_202 (nin hfr (by decide) (by decide)) (by unfold lit; omega) (by decide) (by decide) (canon (by decide) ?_)
  refine j_dup dX9_init_205 rfl ?_
  refine cI9_81 (d1 := 2) (mc1 := 0) (ms1 := 0) dX9_init_206 (by decide) (by decide) (by decide) (Nat.le_of_ble_eq_true rfl) ?_
  refine k_print (a := 152) hfr (by decide) rfl ?_
  refine j_aast rfl (by decide) (by decide) (fun _ => rfl) rfl (by decide) rfl (inT rfl (by decide) (by decide)) dX9_init_209 ?_
  rw [nI_clamp (by decide), upr_s]
  refine j_iinc1 (lv2 := [_, _]) dX9_init_210 rfl (by decide) rfl rfl ?_
  rw [nI_1]
  refine j_goto (tgt := 192) dX9_init_213 (by decide) ?_
  refine j_iload_n dX9_init_192 rfl rfl ?_
  refine j_iconst (v := 5) dX9_init_193 (by decide) ?_
  refine j_icmp_ge (tgt := 216) dX9_init_194 (by decide) (fun h194 => absurd h194 (by decide)) (fun _ => ?_)
  refine j_aload_n dX9_init_197 rfl rfl ?_
  refine gR9_71 rfl dX9_init_198 rfl ?_
  refine j_iload_n dX9_init_201 rfl rfl ?_
  refine n9_69 (a := 153) rfl dX9_init_202 (nin hfr (by decide) (by decide)) (by unfold lit; omega) (by decide) (by decide) (canon (by decide) ?_)
  refine j_dup dX9_init_205 rfl ?_
  refine cI9_81 (d1 := 2) (mc1 := 0) (ms1 := 0) dX9_init_206 (by decide) (by decide) (by decide) (Nat.le_of_ble_eq_true rfl) ?_
  refine k_print (a := 153) hfr (by decide) rfl ?_
  refine j_aast rfl (by decide) (by decide) (fun _ => rfl) rfl (by decide) rfl (inT rfl (by decide) (by decide)) dX9_init_209 ?_
  rw [nI_clamp (by decide), upr_s]
  refine j_iinc1 (lv2 := [_, _]) dX9_init_210 rfl (by decide) rfl rfl ?_
  rw [nI_1]
  refine j_goto (tgt := 192) dX9_init_213 (by decide) ?_
  refine j_iload_n dX9_init_192 rfl rfl ?_
  refine j_iconst (v := 5) dX9_init_193 (by decide) ?_
  refine j_icmp_ge (tgt := 216) dX9_init_194 (by decide) (fun h194 => absurd h194 (by decide)) (fun _ => ?_)
  refine j_aload_n dX9_init_197 rfl rfl ?_
  refine gR9_71 rfl dX9_init_198 rfl ?_
  refine j_iload_n dX9_init_201 rfl rfl ?_
  refine n9_69 (a := 154) rfl dX9_init_202 (nin hfr (by decide) (by decide)) (by unfold lit; omega) (by decide) (by decide) (canon (by decide) ?_)
  refine j_dup dX9_init_205 rfl ?_
  refine cI9_81 (d1 := 2) (mc1 := 0) (ms1 := 0) dX9_init_206 (by decide) (by decide) (by decide) (Nat.le_of_ble_eq_true rfl) ?_
  refine k_print (a := 154) hfr (by decide) rfl ?_
  refine j_aast rfl (by decide) (by decide) (fun _ => rfl) rfl (by decide) rfl (inT rfl (by decide) (by decide)) dX9_init_209 ?_
  rw [nI_clamp (by decide), upr_s]
  refine j_iinc1 (lv2 := [_, _]) dX9_init_210 rfl (by decide) rfl rfl ?_
  rw [nI_1]
  refine j_goto (tgt := 192) dX9_init_213 (by decide) ?_
  refine j_iload_n dX9_init_192 rfl rfl ?_
  refine j_iconst (v := 5) dX9_init_193 (by decide) ?_
  refine j_icmp_ge (tgt := 216) dX9_init_194 (by decide) (fun _ => ?_) (fun h194 => absurd (by decide) h194)
  refine j_vret rfl dX9_init_216 ?_
  exact hp
theorem k_town200  (hfr : ∀ n ∈ dom, n ∉ (TB 200)) (hGA : GA G) (hp : post none (clrs mi [200, 201, 202, 203, 204, 205, 206, 207, 208, 209, 210, 220, 211, 221, 212, 222, 213, 223, 214, 224, 215, 225, 230, 231, 232, 233, 234, 240, 241, 242, 243, 244, 245, 246, 247, 250, 251, 252, 253, 254]) (clrsl ml [200, 201, 202, 203, 204, 205, 206, 207, 208, 209, 210, 220, 211, 221, 212, 222, 213, 223, 214, 224, 215, 225, 230, 231, 232, 233, 234, 240, 241, 242, 243, 244, 245, 246, 247, 250, 251, 252, 253, 254]) (rs mr [200, 201, 202, 203, 204, 205, 206, 207, 208, 209, 210, 220, 211, 221, 212, 222, 213, 223, 214, 224, 215, 225, 230, 231, 232, 233, 234, 240, 241, 242, 243, 244, 245, 246, 247, 250, 251, 252, 253, 254] [(208, 4, 254), (208, 3, 253), (208, 2, 252), (208, 1, 251), (208, 0, 250), (207, 7, 247), (207, 6, 246), (207, 5, 245), (207, 4, 244), (207, 3, 243), (207, 2, 242), (207, 1, 241), (207, 0, 240), (206, 4, 234), (206, 3, 233), (206, 2, 232), (206, 1, 231), (206, 0, 230), (205, 5, 215), (215, 3, 225), (205, 4, 214), (214, 3, 224), (205, 3, 213), (213, 3, 223), (205, 2, 212), (212, 3, 222), (205, 1, 211), (211, 3, 221), (205, 0, 210), (210, 3, 220), (200, 15, 209), (200, 14, 208), (200, 13, 207), (200, 12, 206), (200, 11, 205), (200, 10, 202), (202, 2, 204), (202, 1, 203), (200, 9, 201)]) (dom ++ [200, 201, 202, 203, 204, 205, 206, 207, 208, 209, 210, 220, 211, 221, 212, 222, 213, 223, 214, 224, 215, 225, 230, 231, 232, 233, 234, 240, 241, 242, 243, 244, 245, 246, 247, 250, 251, 252, 253, 254])) : CT G 3 39 220 yX9_init cX9_init 2 none [.ref 200] (clr mi 200) (clrl ml 200) (clrr mr 200) (dom ++ [200]) post := by
  rw [clr_1, clrl_1, clrr_1]
  refine enter 1 (by decide) rfl rfl (fun X => ?_)
  refine j_aload_n dX9_init_0 rfl rfl ?_
  refine oI9_3 dX9_init_1 (by decide) (Nat.le_of_ble_eq_true rfl) ?_
  refine j_aload_n dX9_init_4 rfl rfl ?_
  refine j_iconst (v := 0) dX9_init_5 (by decide) ?_
  refine pI9_9 rfl (by decide) dX9_init_6 ?_
  rw [up_s0 _ _ (by decide)]
  refine j_aload_n dX9_init_9 rfl rfl ?_
  refine j_iconst (v := 0) dX9_init_10 (by decide) ?_
  refine pI9_15 rfl dX9_init_11 ?_
  rw [up_s0 _ _ (by decide)]
  refine j_aload_n dX9_init_14 rfl rfl ?_
  refine j_iconst (v := 0) dX9_init_15 (by decide) ?_
  refine pI9_19 rfl dX9_init_16 ?_
  rw [up_s0 _ _ (by decide)]
  refine j_aload_n dX9_init_19 rfl rfl ?_
  refine j_iconst (v := 0) dX9_init_20 (by decide) ?_
  refine pI9_22 rfl dX9_init_21 ?_
  rw [up_s0 _ _ (by decide)]
  refine j_aload_n dX9_init_24 rfl rfl ?_
  refine j_iconst (v := 0) dX9_init_25 (by decide) ?_
  refine pI9_25 rfl dX9_init_26 ?_
  rw [up_s0 _ _ (by decide)]
  refine j_aload_n dX9_init_29 rfl rfl ?_
  refine j_iconst (v := 0) dX9_init_30 (by decide) ?_
  refine pI9_28 rfl dX9_init_31 ?_
  rw [up_s0 _ _ (by decide)]
  refine j_aload_n dX9_init_34 rfl rfl ?_
  refine j_iconst (v := 0) dX9_init_35 (by decide) ?_
  refine pI9_31 rfl dX9_init_36 ?_
  rw [up_s0 _ _ (by decide)]
  refine j_aload_n dX9_init_39 rfl rfl ?_
  refine j_iconst (v := 0) dX9_init_40 (by decide) ?_
  refine pI9_34 rfl dX9_init_41 ?_
  rw [up_s0 _ _ (by decide)]
  refine j_aload_n dX9_init_44 rfl rfl ?_
  refine j_iconst (v := 0) dX9_init_45 (by decide) ?_
  refine pI9_37 rfl dX9_init_46 ?_
  rw [up_s0 _ _ (by decide)]
  refine j_aload_n dX9_init_49 rfl rfl ?_
  refine j_bipush (v := 6) dX9_init_50 (by decide) ?_
  refine j_newI (a := 201) rfl rfl rfl rfl (by decide) dX9_init_52 (nin hfr (by decide) (by decide)) (by unfold lit; omega) (by decide) (by decide) (canon (by decide) ?_)
  refine pR9_40 rfl rfl dX9_init_54 ?_
  rw [upr_s]
  refine j_aload_n dX9_init_57 rfl rfl ?_
  refine n9_44 (a := 202) rfl dX9_init_58 (nin hfr (by decide) (by decide)) (by unfold lit; omega) (by decide) (by decide) (canon (by decide) ?_)
  refine j_dup dX9_init_61 rfl ?_
  refine cI9_46 (d1 := 2) (mc1 := 2) (ms1 := 72) dX9_init_62 (by decide) (by decide) (by decide) (Nat.le_of_ble_eq_true rfl) ?_
  refine k_lanes (a := 202) hfr (by decide) rfl rfl rfl rfl rfl (by decide) (by decide) (by decide) (by decide) (by unfold lit; omega) (by unfold lit; omega) (by decide) (by decide) ?_
  refine pR9_47 rfl rfl dX9_init_65 ?_
  rw [upr_s]
  refine j_aload_n dX9_init_68 rfl rfl ?_
  refine j_bipush (v := 6) dX9_init_69 (by decide) ?_
  refine nq9_51 (a := 205) hGA rfl rfl rfl (by decide) dX9_init_71 (nin hfr (by decide) (by decide)) (by unfold lit; omega) (by decide) (by decide) (canon (by decide) ?_)
  refine pR9_53 rfl rfl dX9_init_74 ?_
  rw [upr_s]
  refine j_aload_n dX9_init_77 rfl rfl ?_
  refine j_iconst (v := 5) dX9_init_78 (by decide) ?_
  refine nq9_57 (a := 206) hGA rfl rfl rfl (by decide) dX9_init_79 (nin hfr (by decide) (by decide)) (by unfold lit; omega) (by decide) (by decide) (canon (by decide) ?_)
  refine pR9_59 rfl rfl dX9_init_82 ?_
  rw [upr_s]
  refine j_aload_n dX9_init_85 rfl rfl ?_
  refine j_bipush (v := 8) dX9_init_86 (by decide) ?_
  refine nq9_63 (a := 207) hGA rfl rfl rfl (by decide) dX9_init_88 (nin hfr (by decide) (by decide)) (by unfold lit; omega) (by decide) (by decide) (canon (by decide) ?_)
  refine pR9_65 rfl rfl dX9_init_91 ?_
  rw [upr_s]
  refine j_aload_n dX9_init_94 rfl rfl ?_
  refine j_iconst (v := 5) dX9_init_95 (by decide) ?_
  refine nq9_69 (a := 208) hGA rfl rfl rfl (by decide) dX9_init_96 (nin hfr (by decide) (by decide)) (by unfold lit; omega) (by decide) (by decide) (canon (by decide) ?_)
  refine pR9_71 rfl rfl dX9_init_99 ?_
  rw [upr_s]
  refine j_aload_n dX9_init_102 rfl rfl ?_
  refine j_bipush (v := 6) dX9_init_103 (by decide) ?_
  refine j_newI (a := 209) rfl rfl rfl rfl (by decide) dX9_init_105 (nin hfr (by decide) (by decide)) (by unfold lit; omega) (by decide) (by decide) (canon (by decide) ?_)
  refine pR9_75 rfl rfl dX9_init_107 ?_
  rw [upr_s]
  refine j_iconst (v := nI 0) dX9_init_110 (by decide) ?_
  refine j_istore_n (lv2 := [_, _]) dX9_init_111 rfl (by decide) rfl rfl ?_
  refine j_iload_n dX9_init_112 rfl rfl ?_
  refine j_bipush (v := 6) dX9_init_113 (by decide) ?_
  refine j_icmp_ge (tgt := 137) dX9_init_115 (by decide) (fun h115 => absurd h115 (by decide)) (fun _ => ?_)
  refine j_aload_n dX9_init_118 rfl rfl ?_
  refine gR9_53 rfl dX9_init_119 rfl ?_
  refine j_iload_n dX9_init_122 rfl rfl ?_
  refine n9_51 (a := 210) rfl dX9_init_123 (nin hfr (by decide) (by decide)) (by unfold lit; omega) (by decide) (by decide) (canon (by decide) ?_)
  refine j_dup dX9_init_126 rfl ?_
  refine cI9_78 (d1 := 2) (mc1 := 1) (ms1 := 5) dX9_init_127 (by decide) (by decide) (by decide) (Nat.le_of_ble_eq_true rfl) ?_
  refine k_person (a := 210) hfr (by decide) rfl rfl rfl (by decide) (by decide) (by unfold lit; omega) (by decide) ?_
  refine j_aast rfl (by decide) (by decide) (fun _ => rfl) rfl (by decide) rfl (inT rfl (by decide) (by decide)) dX9_init_130 ?_
  rw [nI_clamp (by decide), upr_s]
  refine j_iinc1 (lv2 := [_, _]) dX9_init_131 rfl (by decide) rfl rfl ?_
  rw [nI_1]
  refine j_goto (tgt := 112) dX9_init_134 (by decide) ?_
  refine j_iload_n dX9_init_112 rfl rfl ?_
  refine j_bipush (v := 6) dX9_init_113 (by decide) ?_
  refine j_icmp_ge (tgt := 137) dX9_init_115 (by decide) (fun h115 => absurd h115 (by decide)) (fun _ => ?_)
  refine j_aload_n dX9_init_118 rfl rfl ?_
  refine gR9_53 rfl dX9_init_119 rfl ?_
  refine j_iload_n dX9_init_122 rfl rfl ?_
  refine n9_51 (a := 211) rfl dX9_init_123 (nin hfr (by decide) (by decide)) (by unfold lit; omega) (by decide) (by decide) (canon (by decide) ?_)
  refine j_dup dX9_init_126 rfl ?_
  refine cI9_78 (d1 := 2) (mc1 := 1) (ms1 := 5) dX9_init_127 (by decide) (by decide) (by decide) (Nat.le_of_ble_eq_true rfl) ?_
  refine k_person (a := 211) hfr (by decide) rfl rfl rfl (by decide) (by decide) (by unfold lit; omega) (by decide) ?_
  refine j_aast rfl (by decide) (by decide) (fun _ => rfl) rfl (by decide) rfl (inT rfl (by decide) (by decide)) dX9_init_130 ?_
  rw [nI_clamp (by decide), upr_s]
  refine j_iinc1 (lv2 := [_, _]) dX9_init_131 rfl (by decide) rfl rfl ?_
  rw [nI_1]
  refine j_goto (tgt := 112) dX9_init_134 (by decide) ?_
  refine j_iload_n dX9_init_112 rfl rfl ?_
  refine j_bipush (v := 6) dX9_init_113 (by decide) ?_
  refine j_icmp_ge (tgt := 137) dX9_init_115 (by decide) (fun h115 => absurd h115 (by decide)) (fun _ => ?_)
  refine j_aload_n dX9_init_118 rfl rfl ?_
  refine gR9_53 rfl dX9_init_119 rfl ?_
  refine j_iload_n dX9_init_122 rfl rfl ?_
  refine n9_51 (a := 212) rfl dX9_init_123 (nin hfr (by decide) (by decide)) (by unfold lit; omega) (by decide) (by decide) (canon (by decide) ?_)
  refine j_dup dX9_init_126 rfl ?_
  refine cI9_78 (d1 := 2) (mc1 := 1) (ms1 := 5) dX9_init_127 (by decide) (by decide) (by decide) (Nat.le_of_ble_eq_true rfl) ?_
  refine k_person (a := 212) hfr (by decide) rfl rfl rfl (by decide) (by decide) (by unfold lit; omega) (by decide) ?_
  refine j_aast rfl (by decide) (by decide) (fun _ => rfl) rfl (by decide) rfl (inT rfl (by decide) (by decide)) dX9_init_130 ?_
  rw [nI_clamp (by decide), upr_s]
  refine j_iinc1 (lv2 := [_, _]) dX9_init_131 rfl (by decide) rfl rfl ?_
  rw [nI_1]
  refine j_goto (tgt := 112) dX9_init_134 (by decide) ?_
  refine j_iload_n dX9_init_112 rfl rfl ?_
  refine j_bipush (v := 6) dX9_init_113 (by decide) ?_
  refine j_icmp_ge (tgt := 137) dX9_init_115 (by decide) (fun h115 => absurd h115 (by decide)) (fun _ => ?_)
  refine j_aload_n dX9_init_118 rfl rfl ?_
  refine gR9_53 rfl dX9_init_119 rfl ?_
  refine j_iload_n dX9_init_122 rfl rfl ?_
  refine n9_51 (a := 213) rfl dX9_init_123 (nin hfr (by decide) (by decide)) (by unfold lit; omega) (by decide) (by decide) (canon (by decide) ?_)
  refine j_dup dX9_init_126 rfl ?_
  refine cI9_78 (d1 := 2) (mc1 := 1) (ms1 := 5) dX9_init_127 (by decide) (by decide) (by decide) (Nat.le_of_ble_eq_true rfl) ?_
  refine k_person (a := 213) hfr (by decide) rfl rfl rfl (by decide) (by decide) (by unfold lit; omega) (by decide) ?_
  refine j_aast rfl (by decide) (by decide) (fun _ => rfl) rfl (by decide) rfl (inT rfl (by decide) (by decide)) dX9_init_130 ?_
  rw [nI_clamp (by decide), upr_s]
  refine j_iinc1 (lv2 := [_, _]) dX9_init_131 rfl (by decide) rfl rfl ?_
  rw [nI_1]
  refine j_goto (tgt := 112) dX9_init_134 (by decide) ?_
  refine j_iload_n dX9_init_112 rfl rfl ?_
  refine j_bipush (v := 6) dX9_init_113 (by decide) ?_
  refine j_icmp_ge (tgt := 137) dX9_init_115 (by decide) (fun h115 => absurd h115 (by decide)) (fun _ => ?_)
  refine j_aload_n dX9_init_118 rfl rfl ?_
  refine gR9_53 rfl dX9_init_119 rfl ?_
  refine j_iload_n dX9_init_122 rfl rfl ?_
  refine n9_51 (a := 214) rfl dX9_init_123 (nin hfr (by decide) (by decide)) (by unfold lit; omega) (by decide) (by decide) (canon (by decide) ?_)
  refine j_dup dX9_init_126 rfl ?_
  refine cI9_78 (d1 := 2) (mc1 := 1) (ms1 := 5) dX9_init_127 (by decide) (by decide) (by decide) (Nat.le_of_ble_eq_true rfl) ?_
  refine k_person (a := 214) hfr (by decide) rfl rfl rfl (by decide) (by decide) (by unfold lit; omega) (by decide) ?_
  refine j_aast rfl (by decide) (by decide) (fun _ => rfl) rfl (by decide) rfl (inT rfl (by decide) (by decide)) dX9_init_130 ?_
  rw [nI_clamp (by decide), upr_s]
  refine j_iinc1 (lv2 := [_, _]) dX9_init_131 rfl (by decide) rfl rfl ?_
  rw [nI_1]
  refine j_goto (tgt := 112) dX9_init_134 (by decide) ?_
  refine j_iload_n dX9_init_112 rfl rfl ?_
  refine j_bipush (v := 6) dX9_init_113 (by decide) ?_
  refine j_icmp_ge (tgt := 137) dX9_init_115 (by decide) (fun h115 => absurd h115 (by decide)) (fun _ => ?_)
  refine j_aload_n dX9_init_118 rfl rfl ?_
  refine gR9_53 rfl dX9_init_119 rfl ?_
  refine j_iload_n dX9_init_122 rfl rfl ?_
  refine n9_51 (a := 215) rfl dX9_init_123 (nin hfr (by decide) (by decide)) (by unfold lit; omega) (by decide) (by decide) (canon (by decide) ?_)
  refine j_dup dX9_init_126 rfl ?_
  refine cI9_78 (d1 := 2) (mc1 := 1) (ms1 := 5) dX9_init_127 (by decide) (by decide) (by decide) (Nat.le_of_ble_eq_true rfl) ?_
  refine k_person (a := 215) hfr (by decide) rfl rfl rfl (by decide) (by decide) (by unfold lit; omega) (by decide) ?_
  refine j_aast rfl (by decide) (by decide) (fun _ => rfl) rfl (by decide) rfl (inT rfl (by decide) (by decide)) dX9_init_130 ?_
  rw [nI_clamp (by decide), upr_s]
  refine j_iinc1 (lv2 := [_, _]) dX9_init_131 rfl (by decide) rfl rfl ?_
  rw [nI_1]
  refine j_goto (tgt := 112) dX9_init_134 (by decide) ?_
  refine j_iload_n dX9_init_112 rfl rfl ?_
  refine j_bipush (v := 6) dX9_init_113 (by decide) ?_
  refine j_icmp_ge (tgt := 137) dX9_init_115 (by decide) (fun _ => ?_) (fun h115 => absurd (by decide) h115)
  refine j_iconst (v := nI 0) dX9_init_137 (by decide) ?_
  refine j_istore_n (lv2 := [_, _]) dX9_init_138 rfl (by decide) rfl rfl ?_
  refine j_iload_n dX9_init_139 rfl rfl ?_
  refine j_iconst (v := 5) dX9_init_140 (by decide) ?_
  refine j_icmp_ge (tgt := 163) dX9_init_141 (by decide) (fun h141 => absurd h141 (by decide)) (fun _ => ?_)
  refine j_aload_n dX9_init_144 rfl rfl ?_
  refine gR9_59 rfl dX9_init_145 rfl ?_
  refine j_iload_n dX9_init_148 rfl rfl ?_
  refine n9_57 (a := 230) rfl dX9_init_149 (nin hfr (by decide) (by decide)) (by unfold lit; omega) (by decide) (by decide) (canon (by decide) ?_)
  refine j_dup dX9_init_152 rfl ?_
  refine cI9_79 (d1 := 2) (mc1 := 0) (ms1 := 0) dX9_init_153 (by decide) (by decide) (by decide) (Nat.le_of_ble_eq_true rfl) ?_
  refine k_good (a := 230) hfr (by decide) rfl ?_
  refine j_aast rfl (by decide) (by decide) (fun _ => rfl) rfl (by decide) rfl (inT rfl (by decide) (by decide)) dX9_init_156 ?_
  rw [nI_clamp (by decide), upr_s]
  refine j_iinc1 (lv2 := [_, _]) dX9_init_157 rfl (by decide) rfl rfl ?_
  rw [nI_1]
  refine j_goto (tgt := 139) dX9_init_160 (by decide) ?_
  refine j_iload_n dX9_init_139 rfl rfl ?_
  refine j_iconst (v := 5) dX9_init_140 (by decide) ?_
  refine j_icmp_ge (tgt := 163) dX9_init_141 (by decide) (fun h141 => absurd h141 (by decide)) (fun _ => ?_)
  refine j_aload_n dX9_init_144 rfl rfl ?_
  refine gR9_59 rfl dX9_init_145 rfl ?_
  refine j_iload_n dX9_init_148 rfl rfl ?_
  refine n9_57 (a := 231) rfl dX9_init_149 (nin hfr (by decide) (by decide)) (by unfold lit; omega) (by decide) (by decide) (canon (by decide) ?_)
  refine j_dup dX9_init_152 rfl ?_
  refine cI9_79 (d1 := 2) (mc1 := 0) (ms1 := 0) dX9_init_153 (by decide) (by decide) (by decide) (Nat.le_of_ble_eq_true rfl) ?_
  refine k_good (a := 231) hfr (by decide) rfl ?_
  refine j_aast rfl (by decide) (by decide) (fun _ => rfl) rfl (by decide) rfl (inT rfl (by decide) (by decide)) dX9_init_156 ?_
  rw [nI_clamp (by decide), upr_s]
  refine j_iinc1 (lv2 := [_, _]) dX9_init_157 rfl (by decide) rfl rfl ?_
  rw [nI_1]
  refine j_goto (tgt := 139) dX9_init_160 (by decide) ?_
  refine j_iload_n dX9_init_139 rfl rfl ?_
  refine j_iconst (v := 5) dX9_init_140 (by decide) ?_
  refine j_icmp_ge (tgt := 163) dX9_init_141 (by decide) (fun h141 => absurd h141 (by decide)) (fun _ => ?_)
  refine j_aload_n dX9_init_144 rfl rfl ?_
  refine gR9_59 rfl dX9_init_145 rfl ?_
  refine j_iload_n dX9_init_148 rfl rfl ?_
  refine n9_57 (a := 232) rfl dX9_init_149 (nin hfr (by decide) (by decide)) (by unfold lit; omega) (by decide) (by decide) (canon (by decide) ?_)
  refine j_dup dX9_init_152 rfl ?_
  refine cI9_79 (d1 := 2) (mc1 := 0) (ms1 := 0) dX9_init_153 (by decide) (by decide) (by decide) (Nat.le_of_ble_eq_true rfl) ?_
  refine k_good (a := 232) hfr (by decide) rfl ?_
  refine j_aast rfl (by decide) (by decide) (fun _ => rfl) rfl (by decide) rfl (inT rfl (by decide) (by decide)) dX9_init_156 ?_
  rw [nI_clamp (by decide), upr_s]
  refine j_iinc1 (lv2 := [_, _]) dX9_init_157 rfl (by decide) rfl rfl ?_
  rw [nI_1]
  refine j_goto (tgt := 139) dX9_init_160 (by decide) ?_
  refine j_iload_n dX9_init_139 rfl rfl ?_
  refine j_iconst (v := 5) dX9_init_140 (by decide) ?_
  refine j_icmp_ge (tgt := 163) dX9_init_141 (by decide) (fun h141 => absurd h141 (by decide)) (fun _ => ?_)
  refine j_aload_n dX9_init_144 rfl rfl ?_
  refine gR9_59 rfl dX9_init_145 rfl ?_
  refine j_iload_n dX9_init_148 rfl rfl ?_
  refine n9_57 (a := 233) rfl dX9_init_149 (nin hfr (by decide) (by decide)) (by unfold lit; omega) (by decide) (by decide) (canon (by decide) ?_)
  refine j_dup dX9_init_152 rfl ?_
  refine cI9_79 (d1 := 2) (mc1 := 0) (ms1 := 0) dX9_init_153 (by decide) (by decide) (by decide) (Nat.le_of_ble_eq_true rfl) ?_
  refine k_good (a := 233) hfr (by decide) rfl ?_
  refine j_aast rfl (by decide) (by decide) (fun _ => rfl) rfl (by decide) rfl (inT rfl (by decide) (by decide)) dX9_init_156 ?_
  rw [nI_clamp (by decide), upr_s]
  refine j_iinc1 (lv2 := [_, _]) dX9_init_157 rfl (by decide) rfl rfl ?_
  rw [nI_1]
  refine j_goto (tgt := 139) dX9_init_160 (by decide) ?_
  refine j_iload_n dX9_init_139 rfl rfl ?_
  refine j_iconst (v := 5) dX9_init_140 (by decide) ?_
  refine j_icmp_ge (tgt := 163) dX9_init_141 (by decide) (fun h141 => absurd h141 (by decide)) (fun _ => ?_)
  refine j_aload_n dX9_init_144 rfl rfl ?_
  refine gR9_59 rfl dX9_init_145 rfl ?_
  refine j_iload_n dX9_init_148 rfl rfl ?_
  refine n9_57 (a := 234) rfl dX9_init_149 (nin hfr (by decide) (by decide)) (by unfold lit; omega) (by decide) (by decide) (canon (by decide) ?_)
  refine j_dup dX9_init_152 rfl ?_
  refine cI9_79 (d1 := 2) (mc1 := 0) (ms1 := 0) dX9_init_153 (by decide) (by decide) (by decide) (Nat.le_of_ble_eq_true rfl) ?_
  refine k_good (a := 234) hfr (by decide) rfl ?_
  refine j_aast rfl (by decide) (by decide) (fun _ => rfl) rfl (by decide) rfl (inT rfl (by decide) (by decide)) dX9_init_156 ?_
  rw [nI_clamp (by decide), upr_s]
  refine j_iinc1 (lv2 := [_, _]) dX9_init_157 rfl (by decide) rfl rfl ?_
  rw [nI_1]
  refine j_goto (tgt := 139) dX9_init_160 (by decide) ?_
  refine j_iload_n dX9_init_139 rfl rfl ?_
  refine j_iconst (v := 5) dX9_init_140 (by decide) ?_
  refine j_icmp_ge (tgt := 163) dX9_init_141 (by decide) (fun _ => ?_) (fun h141 => absurd (by decide) h141)
  refine j_iconst (v := nI 0) dX9_init_163 (by decide) ?_
  refine j_istore_n (lv2 := [_, _]) dX9_init_164 rfl (by decide) rfl rfl ?_
  refine j_iload_n dX9_init_165 rfl rfl ?_
  refine j_bipush (v := 8) dX9_init_166 (by decide) ?_
  refine j_icmp_ge (tgt := 190) dX9_init_168 (by decide) (fun h168 => absurd h168 (by decide)) (fun _ => ?_)
  refine j_aload_n dX9_init_171 rfl rfl ?_
  refine gR9_65 rfl dX9_init_172 rfl ?_
  refine j_iload_n dX9_init_175 rfl rfl ?_
  refine n9_63 (a := 240) rfl dX9_init_176 (nin hfr (by decide) (by decide)) (by unfold lit; omega) (by decide) (by decide) (canon (by decide) ?_)
  refine j_dup dX9_init_179 rfl ?_
  refine cI9_80 (d1 := 2) (mc1 := 0) (ms1 := 0) dX9_init_180 (by decide) (by decide) (by decide) (Nat.le_of_ble_eq_true rfl) ?_
  refine k_visit (a := 240) hfr (by decide) rfl ?_
  refine j_aast rfl (by decide) (by decide) (fun _ => rfl) rfl (by decide) rfl (inT rfl (by decide) (by decide)) dX9_init_183 ?_
  rw [nI_clamp (by decide), upr_s]
  refine j_iinc1 (lv2 := [_, _]) dX9_init_184 rfl (by decide) rfl rfl ?_
  rw [nI_1]
  refine j_goto (tgt := 165) dX9_init_187 (by decide) ?_
  refine j_iload_n dX9_init_165 rfl rfl ?_
  refine j_bipush (v := 8) dX9_init_166 (by decide) ?_
  refine j_icmp_ge (tgt := 190) dX9_init_168 (by decide) (fun h168 => absurd h168 (by decide)) (fun _ => ?_)
  refine j_aload_n dX9_init_171 rfl rfl ?_
  refine gR9_65 rfl dX9_init_172 rfl ?_
  refine j_iload_n dX9_init_175 rfl rfl ?_
  refine n9_63 (a := 241) rfl dX9_init_176 (nin hfr (by decide) (by decide)) (by unfold lit; omega) (by decide) (by decide) (canon (by decide) ?_)
  refine j_dup dX9_init_179 rfl ?_
  refine cI9_80 (d1 := 2) (mc1 := 0) (ms1 := 0) dX9_init_180 (by decide) (by decide) (by decide) (Nat.le_of_ble_eq_true rfl) ?_
  refine k_visit (a := 241) hfr (by decide) rfl ?_
  refine j_aast rfl (by decide) (by decide) (fun _ => rfl) rfl (by decide) rfl (inT rfl (by decide) (by decide)) dX9_init_183 ?_
  rw [nI_clamp (by decide), upr_s]
  refine j_iinc1 (lv2 := [_, _]) dX9_init_184 rfl (by decide) rfl rfl ?_
  rw [nI_1]
  refine j_goto (tgt := 165) dX9_init_187 (by decide) ?_
  refine j_iload_n dX9_init_165 rfl rfl ?_
  refine j_bipush (v := 8) dX9_init_166 (by decide) ?_
  refine j_icmp_ge (tgt := 190) dX9_init_168 (by decide) (fun h168 => absurd h168 (by decide)) (fun _ => ?_)
  refine j_aload_n dX9_init_171 rfl rfl ?_
  refine gR9_65 rfl dX9_init_172 rfl ?_
  refine j_iload_n dX9_init_175 rfl rfl ?_
  refine n9_63 (a := 242) rfl dX9_init_176 (nin hfr (by decide) (by decide)) (by unfold lit; omega) (by decide) (by decide) (canon (by decide) ?_)
  refine j_dup dX9_init_179 rfl ?_
  refine cI9_80 (d1 := 2) (mc1 := 0) (ms1 := 0) dX9_init_180 (by decide) (by decide) (by decide) (Nat.le_of_ble_eq_true rfl) ?_
  refine k_visit (a := 242) hfr (by decide) rfl ?_
  refine j_aast rfl (by decide) (by decide) (fun _ => rfl) rfl (by decide) rfl (inT rfl (by decide) (by decide)) dX9_init_183 ?_
  rw [nI_clamp (by decide), upr_s]
  refine j_iinc1 (lv2 := [_, _]) dX9_init_184 rfl (by decide) rfl rfl ?_
  rw [nI_1]
  refine j_goto (tgt := 165) dX9_init_187 (by decide) ?_
  refine j_iload_n dX9_init_165 rfl rfl ?_
  refine j_bipush (v := 8) dX9_init_166 (by decide) ?_
  refine j_icmp_ge (tgt := 190) dX9_init_168 (by decide) (fun h168 => absurd h168 (by decide)) (fun _ => ?_)
  refine j_aload_n dX9_init_171 rfl rfl ?_
  refine gR9_65 rfl dX9_init_172 rfl ?_
  refine j_iload_n dX9_init_175 rfl rfl ?_
  refine n9_63 (a := 243) rfl dX9_init_176 (nin hfr (by decide) (by decide)) (by unfold lit; omega) (by decide) (by decide) (canon (by decide) ?_)
  refine j_dup dX9_init_179 rfl ?_
  refine cI9_80 (d1 := 2) (mc1 := 0) (ms1 := 0) dX9_init_180 (by decide) (by decide) (by decide) (Nat.le_of_ble_eq_true rfl) ?_
  refine k_visit (a := 243) hfr (by decide) rfl ?_
  refine j_aast rfl (by decide) (by decide) (fun _ => rfl) rfl (by decide) rfl (inT rfl (by decide) (by decide)) dX9_init_183 ?_
  rw [nI_clamp (by decide), upr_s]
  refine j_iinc1 (lv2 := [_, _]) dX9_init_184 rfl (by decide) rfl rfl ?_
  rw [nI_1]
  refine j_goto (tgt := 165) dX9_init_187 (by decide) ?_
  refine j_iload_n dX9_init_165 rfl rfl ?_
  refine j_bipush (v := 8) dX9_init_166 (by decide) ?_
  refine j_icmp_ge (tgt := 190) dX9_init_168 (by decide) (fun h168 => absurd h168 (by decide)) (fun _ => ?_)
  refine j_aload_n dX9_init_171 rfl rfl ?_
  refine gR9_65 rfl dX9_init_172 rfl ?_
  refine j_iload_n dX9_init_175 rfl rfl ?_
  refine n9_63 (a := 244) rfl dX9_init_176 (nin hfr (by decide) (by decide)) (by unfold lit; omega) (by decide) (by decide) (canon (by decide) ?_)
  refine j_dup dX9_init_179 rfl ?_
  refine cI9_80 (d1 := 2) (mc1 := 0) (ms1 := 0) dX9_init_180 (by decide) (by decide) (by decide) (Nat.le_of_ble_eq_true rfl) ?_
  refine k_visit (a := 244) hfr (by decide) rfl ?_
  refine j_aast rfl (by decide) (by decide) (fun _ => rfl) rfl (by decide) rfl (inT rfl (by decide) (by decide)) dX9_init_183 ?_
  rw [nI_clamp (by decide), upr_s]
  refine j_iinc1 (lv2 := [_, _]) dX9_init_184 rfl (by decide) rfl rfl ?_
  rw [nI_1]
  refine j_goto (tgt := 165) dX9_init_187 (by decide) ?_
  refine j_iload_n dX9_init_165 rfl rfl ?_
  refine j_bipush (v := 8) dX9_init_166 (by decide) ?_
  refine j_icmp_ge (tgt := 190) dX9_init_168 (by decide) (fun h168 => absurd h168 (by decide)) (fun _ => ?_)
  refine j_aload_n dX9_init_171 rfl rfl ?_
  refine gR9_65 rfl dX9_init_172 rfl ?_
  refine j_iload_n dX9_init_175 rfl rfl ?_
  refine n9_63 (a := 245) rfl dX9_init_176 (nin hfr (by decide) (by decide)) (by unfold lit; omega) (by decide) (by decide) (canon (by decide) ?_)
  refine j_dup dX9_init_179 rfl ?_
  refine cI9_80 (d1 := 2) (mc1 := 0) (ms1 := 0) dX9_init_180 (by decide) (by decide) (by decide) (Nat.le_of_ble_eq_true rfl) ?_
  refine k_visit (a := 245) hfr (by decide) rfl ?_
  refine j_aast rfl (by decide) (by decide) (fun _ => rfl) rfl (by decide) rfl (inT rfl (by decide) (by decide)) dX9_init_183 ?_
  rw [nI_clamp (by decide), upr_s]
  refine j_iinc1 (lv2 := [_, _]) dX9_init_184 rfl (by decide) rfl rfl ?_
  rw [nI_1]
  refine j_goto (tgt := 165) dX9_init_187 (by decide) ?_
  refine j_iload_n dX9_init_165 rfl rfl ?_
  refine j_bipush (v := 8) dX9_init_166 (by decide) ?_
  refine j_icmp_ge (tgt := 190) dX9_init_168 (by decide) (fun h168 => absurd h168 (by decide)) (fun _ => ?_)
  refine j_aload_n dX9_init_171 rfl rfl ?_
  refine gR9_65 rfl dX9_init_172 rfl ?_
  refine j_iload_n dX9_init_175 rfl rfl ?_
  refine n9_63 (a := 246) rfl dX9_init_176 (nin hfr (by decide) (by decide)) (by unfold lit; omega) (by decide) (by decide) (canon (by decide) ?_)
  refine j_dup dX9_init_179 rfl ?_
  refine cI9_80 (d1 := 2) (mc1 := 0) (ms1 := 0) dX9_init_180 (by decide) (by decide) (by decide) (Nat.le_of_ble_eq_true rfl) ?_
  refine k_visit (a := 246) hfr (by decide) rfl ?_
  refine j_aast rfl (by decide) (by decide) (fun _ => rfl) rfl (by decide) rfl (inT rfl (by decide) (by decide)) dX9_init_183 ?_
  rw [nI_clamp (by decide), upr_s]
  refine j_iinc1 (lv2 := [_, _]) dX9_init_184 rfl (by decide) rfl rfl ?_
  rw [nI_1]
  refine j_goto (tgt := 165) dX9_init_187 (by decide) ?_
  refine j_iload_n dX9_init_165 rfl rfl ?_
  refine j_bipush (v := 8) dX9_init_166 (by decide) ?_
  refine j_icmp_ge (tgt := 190) dX9_init_168 (by decide) (fun h168 => absurd h168 (by decide)) (fun _ => ?_)
  refine j_aload_n dX9_init_171 rfl rfl ?_
  refine gR9_65 rfl dX9_init_172 rfl ?_
  refine j_iload_n dX9_init_175 rfl rfl ?_
  refine n9_63 (a := 247) rfl dX9_init_176 (nin hfr (by decide) (by decide)) (by unfold lit; omega) (by decide) (by decide) (canon (by decide) ?_)
  refine j_dup dX9_init_179 rfl ?_
  refine cI9_80 (d1 := 2) (mc1 := 0) (ms1 := 0) dX9_init_180 (by decide) (by decide) (by decide) (Nat.le_of_ble_eq_true rfl) ?_
  refine k_visit (a := 247) hfr (by decide) rfl ?_
  refine j_aast rfl (by decide) (by decide) (fun _ => rfl) rfl (by decide) rfl (inT rfl (by decide) (by decide)) dX9_init_183 ?_
  rw [nI_clamp (by decide), upr_s]
  refine j_iinc1 (lv2 := [_, _]) dX9_init_184 rfl (by decide) rfl rfl ?_
  rw [nI_1]
  refine j_goto (tgt := 165) dX9_init_187 (by decide) ?_
  refine j_iload_n dX9_init_165 rfl rfl ?_
  refine j_bipush (v := 8) dX9_init_166 (by decide) ?_
  refine j_icmp_ge (tgt := 190) dX9_init_168 (by decide) (fun _ => ?_) (fun h168 => absurd (by decide) h168)
  refine j_iconst (v := nI 0) dX9_init_190 (by decide) ?_
  refine j_istore_n (lv2 := [_, _]) dX9_init_191 rfl (by decide) rfl rfl ?_
  refine j_iload_n dX9_init_192 rfl rfl ?_
  refine j_iconst (v := 5) dX9_init_193 (by decide) ?_
  refine j_icmp_ge (tgt := 216) dX9_init_194 (by decide) (fun h194 => absurd h194 (by decide)) (fun _ => ?_)
  refine j_aload_n dX9_init_197 rfl rfl ?_
  refine gR9_71 rfl dX9_init_198 rfl ?_
  refine j_iload_n dX9_init_201 rfl rfl ?_
  refine n9_69 (a := 250) rfl dX9_init_202 (nin hfr (by decide) (by decide)) (by unfold lit; omega) (by decide) (by decide) (canon (by decide) ?_)
  refine j_dup dX9_init_205 rfl ?_
  refine cI9_81 (d1 := 2) (mc1 := 0) (ms1 := 0) dX9_init_206 (by decide) (by decide) (by decide) (Nat.le_of_ble_eq_true rfl) ?_
  refine k_print (a := 250) hfr (by decide) rfl ?_
  refine j_aast rfl (by decide) (by decide) (fun _ => rfl) rfl (by decide) rfl (inT rfl (by decide) (by decide)) dX9_init_209 ?_
  rw [nI_clamp (by decide), upr_s]
  refine j_iinc1 (lv2 := [_, _]) dX9_init_210 rfl (by decide) rfl rfl ?_
  rw [nI_1]
  refine j_goto (tgt := 192) dX9_init_213 (by decide) ?_
  refine j_iload_n dX9_init_192 rfl rfl ?_
  refine j_iconst (v := 5) dX9_init_193 (by decide) ?_
  refine j_icmp_ge (tgt := 216) dX9_init_194 (by decide) (fun h194 => absurd h194 (by decide)) (fun _ => ?_)
  refine j_aload_n dX9_init_197 rfl rfl ?_
  refine gR9_71 rfl dX9_init_198 rfl ?_
  refine j_iload_n dX9_init_201 rfl rfl ?_
  refine n9_69 (a := 251) rfl dX9_init_202 (nin hfr (by decide) (by decide)) (by unfold lit; omega) (by decide) (by decide) (canon (by decide) ?_)
  refine j_dup dX9_init_205 rfl ?_
  refine cI9_81 (d1 := 2) (mc1 := 0) (ms1 := 0) dX9_init_206 (by decide) (by decide) (by decide) (Nat.le_of_ble_eq_true rfl) ?_
  refine k_print (a := 251) hfr (by decide) rfl ?_
  refine j_aast rfl (by decide) (by decide) (fun _ => rfl) rfl (by decide) rfl (inT rfl (by decide) (by decide)) dX9_init_209 ?_
  rw [nI_clamp (by decide), upr_s]
  refine j_iinc1 (lv2 := [_, _]) dX9_init_210 rfl (by decide) rfl rfl ?_
  rw [nI_1]
  refine j_goto (tgt := 192) dX9_init_213 (by decide) ?_
  refine j_iload_n dX9_init_192 rfl rfl ?_
  refine j_iconst (v := 5) dX9_init_193 (by decide) ?_
  refine j_icmp_ge (tgt := 216) dX9_init_194 (by decide) (fun h194 => absurd h194 (by decide)) (fun _ => ?_)
  refine j_aload_n dX9_init_197 rfl rfl ?_
  refine gR9_71 rfl dX9_init_198 rfl ?_
  refine j_iload_n dX9_init_201 rfl rfl ?_
  refine n9_69 (a := 252) rfl dX9_init_202 (nin hfr (by decide) (by decide)) (by unfold lit; omega) (by decide) (by decide) (canon (by decide) ?_)
  refine j_dup dX9_init_205 rfl ?_
  refine cI9_81 (d1 := 2) (mc1 := 0) (ms1 := 0) dX9_init_206 (by decide) (by decide) (by decide) (Nat.le_of_ble_eq_true rfl) ?_
  refine k_print (a := 252) hfr (by decide) rfl ?_
  refine j_aast rfl (by decide) (by decide) (fun _ => rfl) rfl (by decide) rfl (inT rfl (by decide) (by decide)) dX9_init_209 ?_
  rw [nI_clamp (by decide), upr_s]
  refine j_iinc1 (lv2 := [_, _]) dX9_init_210 rfl (by decide) rfl rfl ?_
  rw [nI_1]
  refine j_goto (tgt := 192) dX9_init_213 (by decide) ?_
  refine j_iload_n dX9_init_192 rfl rfl ?_
  refine j_iconst (v := 5) dX9_init_193 (by decide) ?_
  refine j_icmp_ge (tgt := 216) dX9_init_194 (by decide) (fun h194 => absurd h194 (by decide)) (fun _ => ?_)
  refine j_aload_n dX9_init_197 rfl rfl ?_
  refine gR9_71 rfl dX9_init_198 rfl ?_
  refine j_iload_n dX9_init_201 rfl rfl ?_
  refine n9_69 (a := 253) rfl dX9_init_202 (nin hfr (by decide) (by decide)) (by unfold lit; omega) (by decide) (by decide) (canon (by decide) ?_)
  refine j_dup dX9_init_205 rfl ?_
  refine cI9_81 (d1 := 2) (mc1 := 0) (ms1 := 0) dX9_init_206 (by decide) (by decide) (by decide) (Nat.le_of_ble_eq_true rfl) ?_
  refine k_print (a := 253) hfr (by decide) rfl ?_
  refine j_aast rfl (by decide) (by decide) (fun _ => rfl) rfl (by decide) rfl (inT rfl (by decide) (by decide)) dX9_init_209 ?_
  rw [nI_clamp (by decide), upr_s]
  refine j_iinc1 (lv2 := [_, _]) dX9_init_210 rfl (by decide) rfl rfl ?_
  rw [nI_1]
  refine j_goto (tgt := 192) dX9_init_213 (by decide) ?_
  refine j_iload_n dX9_init_192 rfl rfl ?_
  refine j_iconst (v := 5) dX9_init_193 (by decide) ?_
  refine j_icmp_ge (tgt := 216) dX9_init_194 (by decide) (fun h194 => absurd h194 (by decide)) (fun _ => ?_)
  refine j_aload_n dX9_init_197 rfl rfl ?_
  refine gR9_71 rfl dX9_init_198 rfl ?_
  refine j_iload_n dX9_init_201 rfl rfl ?_
  refine n9_69 (a := 254) rfl dX9_init_202 (nin hfr (by decide) (by decide)) (by unfold lit; omega) (by decide) (by decide) (canon (by decide) ?_)
  refine j_dup dX9_init_205 rfl ?_
  refine cI9_81 (d1 := 2) (mc1 := 0) (ms1 := 0) dX9_init_206 (by decide) (by decide) (by decide) (Nat.le_of_ble_eq_true rfl) ?_
  refine k_print (a := 254) hfr (by decide) rfl ?_
  refine j_aast rfl (by decide) (by decide) (fun _ => rfl) rfl (by decide) rfl (inT rfl (by decide) (by decide)) dX9_init_209 ?_
  rw [nI_clamp (by decide), upr_s]
  refine j_iinc1 (lv2 := [_, _]) dX9_init_210 rfl (by decide) rfl rfl ?_
  rw [nI_1]
  refine j_goto (tgt := 192) dX9_init_213 (by decide) ?_
  refine j_iload_n dX9_init_192 rfl rfl ?_
  refine j_iconst (v := 5) dX9_init_193 (by decide) ?_
  refine j_icmp_ge (tgt := 216) dX9_init_194 (by decide) (fun _ => ?_) (fun h194 => absurd (by decide) h194)
  refine j_vret rfl dX9_init_216 ?_
  exact hp
theorem canonJ {cc : ByteArray} {nL : Nat} {own nm : String} {rt : Option FieldType} {d : Nat} {G : GG} {X : Cx} {post : PT} {bc bs : Nat} {mi : MI} {ml : ML} {mr : MR} {dom l L : List Nat} {pts PTS : List (Nat × Nat × Nat)} {pc : Nat} {lv : List (Option Value)} {st : List Value} (h : ∀ q ∈ pts, q.1 ∉ L) (k : J cc nL own nm rt d G X post bc bs (clrs mi (l ++ L)) (clrsl ml (l ++ L)) (rs mr (l ++ L) (PTS ++ pts)) (dom ++ (l ++ L)) pc lv st) : J cc nL own nm rt d G X post bc bs (clrs (clrs mi l) L) (clrsl (clrsl ml l) L) (rs (rs mr l pts) L PTS) (dom ++ l ++ L) pc lv st := by
  rw [clrs_s, clrsl_s, rs_s _ _ _ _ _ h, List.append_assoc]; exact k
theorem canonL {cc : ByteArray} {nL : Nat} {own nm : String} {rt : Option FieldType} {d : Nat} {G : GG} {X : Cx} {post : PT} {bc bs : Nat} {mi : MI} {ml' : ML} {mr : MR} {dom l L : List Nat} {pts PTS : List (Nat × Nat × Nat)} {pc : Nat} {lv : List (Option Value)} {st : List Value} (h : ∀ q ∈ pts, q.1 ∉ L) (k : J cc nL own nm rt d G X post bc bs (clrs mi (l ++ L)) ml' (rs mr (l ++ L) (PTS ++ pts)) (dom ++ (l ++ L)) pc lv st) : J cc nL own nm rt d G X post bc bs (clrs (clrs mi l) L) ml' (rs (rs mr l pts) L PTS) (dom ++ l ++ L) pc lv st := by
  rw [clrs_s, rs_s _ _ _ _ _ h, List.append_assoc]; exact k
theorem canonM {cc : ByteArray} {nL : Nat} {own nm : String} {rt : Option FieldType} {d : Nat} {G : GG} {X : Cx} {post : PT} {bc bs : Nat} {mi : MI} {ml' : ML} {mr : MR} {dom l L : List Nat} {pts PTS : List (Nat × Nat × Nat)} {pc : Nat} {lv : List (Option Value)} {st : List Value} (h : ∀ q ∈ pts, q.1 ∉ L) (k : J cc nL own nm rt d G X post bc bs (clrs mi (l ++ L)) (clrsl ml' L) (rs mr (l ++ L) (PTS ++ pts)) (dom ++ (l ++ L)) pc lv st) : J cc nL own nm rt d G X post bc bs (clrs (clrs mi l) L) (clrsl ml' L) (rs (rs mr l pts) L PTS) (dom ++ l ++ L) pc lv st := by
  rw [clrs_s, rs_s _ _ _ _ _ h, List.append_assoc]; exact k
theorem frl {dom BL0 BL l : List Nat} (h : ∀ n ∈ dom, n ∉ BL0) (hs : ∀ n ∈ BL, n ∈ BL0) (hl : ∀ n ∈ l, n ∉ BL) : ∀ n ∈ dom ++ l, n ∉ BL := fun n hn q => (List.mem_append.mp hn).elim (fun z => h n z (hs n q)) (fun z => hl n z q)
/-- names of the class -/
def CA : List Nat := List.range 300
theorem clrsl_o (ml : ML) {L : List Nat} {n : Nat} (h : n ∉ L) : clrsl ml L n = ml n := by funext i; unfold clrsl; rw [if_neg h]
theorem clrs_o (mi : MI) {L : List Nat} {n : Nat} (h : n ∉ L) : clrs mi L n = mi n := by funext i; unfold clrs; rw [if_neg h]
theorem rs_o (mr : MR) {L : List Nat} {pts : List (Nat × Nat × Nat)} {n : Nat} (h : n ∉ L) (h2 : ∀ q ∈ pts, q.1 ∈ L) : rs mr L pts n = mr n := by
  funext i; unfold rs; rw [ptl_no (a := n) (fun q hq z => h (by have := h2 q hq; rw [z] at this; exact this))]; simp [h]
theorem rs_in (mr : MR) {L : List Nat} {pts : List (Nat × Nat × Nat)} {n j b : Nat} (h : ptl pts n j = some b) : rs mr L pts n j = some b := by unfold rs; rw [h]
def LC : List Nat := [0, 1, 100, 101, 102, 103, 104, 105, 106, 107, 108, 109, 110, 120, 111, 121, 112, 122, 113, 123, 114, 124, 115, 125, 130, 131, 132, 133, 134, 140, 141, 142, 143, 144, 145, 146, 147, 150, 151, 152, 153, 154, 200, 201, 202, 203, 204, 205, 206, 207, 208, 209, 210, 220, 211, 221, 212, 222, 213, 223, 214, 224, 215, 225, 230, 231, 232, 233, 234, 240, 241, 242, 243, 244, 245, 246, 247, 250, 251, 252, 253, 254, 2, 3, 4, 5, 6, 7, 8, 9, 10, 11, 12, 13, 14, 15, 16, 17, 18, 19, 20, 21, 22]
def PC : List (Nat × Nat × Nat) := [(0, 8, 20), (20, 1, 22), (20, 0, 21), (0, 7, 17), (17, 1, 19), (17, 0, 18), (0, 6, 12), (12, 3, 16), (12, 2, 15), (12, 1, 14), (12, 0, 13), (0, 5, 8), (8, 5, 11), (8, 3, 10), (8, 2, 9), (0, 4, 2), (2, 12, 7), (2, 11, 6), (2, 10, 5), (2, 9, 4), (2, 2, 3), (0, 3, 200), (208, 4, 254), (208, 3, 253), (208, 2, 252), (208, 1, 251), (208, 0, 250), (207, 7, 247), (207, 6, 246), (207, 5, 245), (207, 4, 244), (207, 3, 243), (207, 2, 242), (207, 1, 241), (207, 0, 240), (206, 4, 234), (206, 3, 233), (206, 2, 232), (206, 1, 231), (206, 0, 230), (205, 5, 215), (215, 3, 225), (205, 4, 214), (214, 3, 224), (205, 3, 213), (213, 3, 223), (205, 2, 212), (212, 3, 222), (205, 1, 211), (211, 3, 221), (205, 0, 210), (210, 3, 220), (200, 15, 209), (200, 14, 208), (200, 13, 207), (200, 12, 206), (200, 11, 205), (200, 10, 202), (202, 2, 204), (202, 1, 203), (200, 9, 201), (0, 2, 100), (108, 4, 154), (108, 3, 153), (108, 2, 152), (108, 1, 151), (108, 0, 150), (107, 7, 147), (107, 6, 146), (107, 5, 145), (107, 4, 144), (107, 3, 143), (107, 2, 142), (107, 1, 141), (107, 0, 140), (106, 4, 134), (106, 3, 133), (106, 2, 132), (106, 1, 131), (106, 0, 130), (105, 5, 115), (115, 3, 125), (105, 4, 114), (114, 3, 124), (105, 3, 113), (113, 3, 123), (105, 2, 112), (112, 3, 122), (105, 1, 111), (111, 3, 121), (105, 0, 110), (110, 3, 120), (100, 15, 109), (100, 14, 108), (100, 13, 107), (100, 12, 106), (100, 11, 105), (100, 10, 102), (102, 2, 104), (102, 1, 103), (100, 9, 101), (0, 0, 1)]
/-- what a new object is -/
def K0 (mi : MI) (ml : ML) (mr : MR) (dom : List Nat) (mi' : MI) (ml' : ML) (mr' : MR) (dom' : List Nat) : Prop := (∀ n, n ∈ LC → ∀ j, mi' n j = 0) ∧ (∀ n, n ∉ LC → mi' n = mi n ∧ ml' n = ml n ∧ mr' n = mr n) ∧ (∀ k, k < 7 → ml' 4 k = kc k) ∧ XR mr' ∧ mr' 0 2 = some 100 ∧ mr' 0 3 = some 200 ∧ ∀ n, n ∈ dom' ↔ n ∈ dom ∨ n ∈ LC
theorem k_half (hfr : ∀ n ∈ dom, n ∉ CA) (hGA : GA G) (hp : ∀ mi' ml' mr' dom', K0 mi ml mr dom mi' ml' mr' dom' → post none mi' ml' mr' dom') : CT G 9 102 2206 yX11_init cX11_init 1 none [.ref 0] (clr mi 0) (clrl ml 0) (clrr mr 0) (dom ++ [0]) post := by
  rw [clr_1, clrl_1, clrr_1]
  refine enter 0 (by decide) rfl rfl (fun X => ?_)
  refine j_aload_n dX11_init_0 rfl rfl ?_
  refine oI11_3 dX11_init_1 (by decide) (Nat.le_of_ble_eq_true rfl) ?_
  refine j_aload_n dX11_init_4 rfl rfl ?_
  refine j_sipush (v := 1100) dX11_init_5 (by decide) ?_
  refine j_newB (a := 1) rfl rfl rfl rfl (by decide) dX11_init_8 (nin hfr (by decide +kernel) (by decide +kernel)) (by unfold lit; omega) (by decide) (by decide) (canon (by decide +kernel) ?_)
  refine pR11_9 rfl rfl dX11_init_10 ?_
  rw [upr_s]
  refine j_aload_n dX11_init_13 rfl rfl ?_
  refine j_iconst (v := 0) dX11_init_14 (by decide) ?_
  refine pI11_13 rfl dX11_init_15 ?_
  rw [up_s0 _ _ (by decide +kernel)]
  refine j_aload_n dX11_init_18 rfl rfl ?_
  refine n11_17 (a := 100) rfl dX11_init_19 (nin hfr (by decide +kernel) (by decide +kernel)) (by unfold lit; omega) (by decide) (by decide) ?_
  refine j_dup dX11_init_22 rfl ?_
  refine cI11_19 (d1 := 3) (mc1 := 39) (ms1 := 220) dX11_init_23 (by decide) (by decide) (by decide) (Nat.le_of_ble_eq_true rfl) ?_
  refine k_town100 (frl hfr (by decide +kernel) (by decide +kernel)) hGA ?_
  refine canonJ (by decide +kernel) ?_
  refine pR11_20 rfl dX11_init_26 ?_
  rw [upr_s]
  refine j_aload_n dX11_init_29 rfl rfl ?_
  refine n11_17 (a := 200) rfl dX11_init_30 (nin hfr (by decide +kernel) (by decide +kernel)) (by unfold lit; omega) (by decide) (by decide) ?_
  refine j_dup dX11_init_33 rfl ?_
  refine cI11_19 (d1 := 3) (mc1 := 39) (ms1 := 220) dX11_init_34 (by decide) (by decide) (by decide) (Nat.le_of_ble_eq_true rfl) ?_
  refine k_town200 (frl hfr (by decide +kernel) (by decide +kernel)) hGA ?_
  refine canonJ (by decide +kernel) ?_
  refine pR11_24 rfl dX11_init_37 ?_
  rw [upr_s]
  refine j_aload_n dX11_init_40 rfl rfl ?_
  refine n11_27 (a := 2) rfl dX11_init_41 (nin hfr (by decide +kernel) (by decide +kernel)) (by unfold lit; omega) (by decide) (by decide) ?_
  refine j_dup dX11_init_44 rfl ?_
  refine cI11_29 (d1 := 8) (mc1 := 5) (ms1 := 58) dX11_init_45 (by decide) (by decide) (by decide) (Nat.le_of_ble_eq_true rfl) ?_
  refine k_reader (frl hfr (by decide +kernel) (by decide +kernel)) ?_
  refine canonL (by decide +kernel) ?_
  refine pR11_30 rfl rfl dX11_init_48 ?_
  rw [upr_s]
  refine j_aload_n dX11_init_51 rfl rfl ?_
  refine n11_34 (a := 8) rfl dX11_init_52 (nin hfr (by decide +kernel) (by decide +kernel)) (by unfold lit; omega) (by decide) (by decide) ?_
  refine j_dup dX11_init_55 rfl ?_
  refine cI11_36 (d1 := 2) (mc1 := 3) (ms1 := 260) dX11_init_56 (by decide) (by decide) (by decide) (Nat.le_of_ble_eq_true rfl) ?_
  refine k_present (frl hfr (by decide +kernel) (by decide +kernel)) ?_
  refine canonM (by decide +kernel) ?_
  refine pR11_37 rfl rfl dX11_init_59 ?_
  rw [upr_s]
  refine j_aload_n dX11_init_62 rfl rfl ?_
  refine n11_41 (a := 12) rfl dX11_init_63 (nin hfr (by decide +kernel) (by decide +kernel)) (by unfold lit; omega) (by decide) (by decide) ?_
  refine j_dup dX11_init_66 rfl ?_
  refine cI11_43 (d1 := 2) (mc1 := 4) (ms1 := 208) dX11_init_67 (by decide) (by decide) (by decide) (Nat.le_of_ble_eq_true rfl) ?_
  refine k_carrying (frl hfr (by decide +kernel) (by decide +kernel)) ?_
  refine canonM (by decide +kernel) ?_
  refine pR11_44 rfl rfl dX11_init_70 ?_
  rw [upr_s]
  refine j_aload_n dX11_init_73 rfl rfl ?_
  refine n11_48 (a := 17) rfl dX11_init_74 (nin hfr (by decide +kernel) (by decide +kernel)) (by unfold lit; omega) (by decide) (by decide) ?_
  refine j_dup dX11_init_77 rfl ?_
  refine cI11_50 (d1 := 2) (mc1 := 2) (ms1 := 35) dX11_init_78 (by decide) (by decide) (by decide) (Nat.le_of_ble_eq_true rfl) ?_
  refine k_rows (frl hfr (by decide +kernel) (by decide +kernel)) ?_
  refine canonM (by decide +kernel) ?_
  refine pR11_51 rfl rfl dX11_init_81 ?_
  rw [upr_s]
  refine j_aload_n dX11_init_84 rfl rfl ?_
  refine n11_55 (a := 20) rfl dX11_init_85 (nin hfr (by decide +kernel) (by decide +kernel)) (by unfold lit; omega) (by decide) (by decide) ?_
  refine j_dup dX11_init_88 rfl ?_
  refine cI11_57 (d1 := 2) (mc1 := 2) (ms1 := 42) dX11_init_89 (by decide) (by decide) (by decide) (Nat.le_of_ble_eq_true rfl) ?_
  refine k_shops (frl hfr (by decide +kernel) (by decide +kernel)) ?_
  refine canonM (by decide +kernel) ?_
  refine pR11_58 rfl rfl dX11_init_92 ?_
  rw [upr_s]
  refine j_aload_n dX11_init_95 rfl rfl ?_
  refine j_iconst (v := 0) dX11_init_96 (by decide) ?_
  refine pI11_62 rfl dX11_init_97 ?_
  rw [up_s0 _ _ (by decide +kernel)]
  refine j_aload_n dX11_init_100 rfl rfl ?_
  refine j_iconst (v := 0) dX11_init_101 (by decide) ?_
  refine pI11_65 rfl dX11_init_102 ?_
  rw [up_s0 _ _ (by decide +kernel)]
  refine j_aload_n dX11_init_105 rfl rfl ?_
  refine j_iconst (v := 0) dX11_init_106 (by decide) ?_
  refine pI11_68 rfl dX11_init_107 ?_
  rw [up_s0 _ _ (by decide +kernel)]
  refine j_vret rfl dX11_init_110 ?_
  refine hp _ _ _ _ ?_
  refine ⟨fun n hn j => ?_, fun n hn => ⟨?_, ?_, ?_⟩, fun k hk => ?_, ⟨fun q hq => rs_in _ ?_, fun q hq => rs_in _ ?_, fun q hq => rs_in _ ?_⟩, rs_in _ (by decide), rs_in _ (by decide), fun n => ?_⟩
  · show clrs mi LC n j = 0
    exact if_pos hn
  · exact clrs_o mi (L := LC) hn
  · have h2 : ∀ L : List Nat, (∀ x ∈ L, x ∈ LC) → n ∉ L := fun L h z => hn (h n z)
    rw [clrsl_o _ (h2 _ (by decide +kernel)), clrsl_o _ (h2 _ (by decide +kernel)), clrsl_o _ (h2 _ (by decide +kernel)), clrsl_o _ (h2 _ (by decide +kernel))]
    have h4 : n ≠ 4 := fun z => hn (z ▸ (by decide +kernel))
    rw [upl_off _ _ h4, upl_off _ _ h4, upl_off _ _ h4, upl_off _ _ h4, upl_off _ _ h4, upl_off _ _ h4, upl_off _ _ h4, clrsl_o _ (h2 _ (by decide +kernel)), clrsl_o _ (h2 _ (by decide +kernel))]
  · exact rs_o mr (L := LC) (pts := PC) hn (by decide +kernel)
  · rw [clrsl_o _ (by decide), clrsl_o _ (by decide), clrsl_o _ (by decide), clrsl_o _ (by decide)]
    match k, hk with
    | 0, _ => rfl
    | 1, _ => rfl
    | 2, _ => rfl
    | 3, _ => rfl
    | 4, _ => rfl
    | 5, _ => rfl
    | 6, _ => rfl
    | k + 7, hk => exact absurd hk (by omega)
  · exact (show ∀ q ∈ fxA, ptl PC q.1 q.2.1 = some q.2.2 by decide +kernel) q hq
  · exact (show ∀ q ∈ fxT1, ptl PC q.1 q.2.1 = some q.2.2 by decide +kernel) q hq
  · exact (show ∀ q ∈ fxT2, ptl PC q.1 q.2.1 = some q.2.2 by decide +kernel) q hq
  · exact List.mem_append (s := dom) (t := LC)
theorem kdM (k r : Nat) (hr : r < 20) : kd (2000 + 20 * k + r) = kdD.getD r 99 := by
  unfold kd
  rw [if_neg (by omega), if_neg (by omega), if_neg (by omega), if_neg (by omega), show (2000 + 20 * k + r - 2000) % 20 = r by omega]
theorem lnM (k r : Nat) (hr : r < 20) : ln (2000 + 20 * k + r) = lnD.getD r 0 := by
  unfold ln
  rw [if_neg (by omega), if_neg (by omega), if_neg (by omega), if_neg (by omega), show (2000 + 20 * k + r - 2000) % 20 = r by omega]
def MB (M : Nat) : List Nat := (List.range 20).map (fun r => M + r)
theorem inMB (M r : Nat) (hr : r < 20) : M + r ∈ MB M := List.mem_map.mpr ⟨r, List.mem_range.mpr hr, rfl⟩
theorem k_mtown {k : Nat} (hfr : ∀ n ∈ dom, n ∉ (MB (2000 + 20 * k)))  (hp : post none (clrs mi ((((((((((((((((((([2000 + 20 * k] ++ [2000 + 20 * k + 1]) ++ [2000 + 20 * k + 2]) ++ [2000 + 20 * k + 3]) ++ [2000 + 20 * k + 4]) ++ [2000 + 20 * k + 5]) ++ [2000 + 20 * k + 6]) ++ [2000 + 20 * k + 7]) ++ [2000 + 20 * k + 8]) ++ [2000 + 20 * k + 9]) ++ [2000 + 20 * k + 10]) ++ [2000 + 20 * k + 11]) ++ [2000 + 20 * k + 12]) ++ [2000 + 20 * k + 13]) ++ [2000 + 20 * k + 14]) ++ [2000 + 20 * k + 15]) ++ [2000 + 20 * k + 16]) ++ [2000 + 20 * k + 17]) ++ [2000 + 20 * k + 18]) ++ [2000 + 20 * k + 19])) (clrsl ml ((((((((((((((((((([2000 + 20 * k] ++ [2000 + 20 * k + 1]) ++ [2000 + 20 * k + 2]) ++ [2000 + 20 * k + 3]) ++ [2000 + 20 * k + 4]) ++ [2000 + 20 * k + 5]) ++ [2000 + 20 * k + 6]) ++ [2000 + 20 * k + 7]) ++ [2000 + 20 * k + 8]) ++ [2000 + 20 * k + 9]) ++ [2000 + 20 * k + 10]) ++ [2000 + 20 * k + 11]) ++ [2000 + 20 * k + 12]) ++ [2000 + 20 * k + 13]) ++ [2000 + 20 * k + 14]) ++ [2000 + 20 * k + 15]) ++ [2000 + 20 * k + 16]) ++ [2000 + 20 * k + 17]) ++ [2000 + 20 * k + 18]) ++ [2000 + 20 * k + 19])) (rs mr ((((((((((((((((((([2000 + 20 * k] ++ [2000 + 20 * k + 1]) ++ [2000 + 20 * k + 2]) ++ [2000 + 20 * k + 3]) ++ [2000 + 20 * k + 4]) ++ [2000 + 20 * k + 5]) ++ [2000 + 20 * k + 6]) ++ [2000 + 20 * k + 7]) ++ [2000 + 20 * k + 8]) ++ [2000 + 20 * k + 9]) ++ [2000 + 20 * k + 10]) ++ [2000 + 20 * k + 11]) ++ [2000 + 20 * k + 12]) ++ [2000 + 20 * k + 13]) ++ [2000 + 20 * k + 14]) ++ [2000 + 20 * k + 15]) ++ [2000 + 20 * k + 16]) ++ [2000 + 20 * k + 17]) ++ [2000 + 20 * k + 18]) ++ [2000 + 20 * k + 19]) ((2000 + 20 * k, 28, 2000 + 20 * k + 19) :: ((2000 + 20 * k, 27, 2000 + 20 * k + 18) :: ((2000 + 20 * k, 26, 2000 + 20 * k + 17) :: ((2000 + 20 * k, 25, 2000 + 20 * k + 16) :: ((2000 + 20 * k, 24, 2000 + 20 * k + 15) :: ((2000 + 20 * k, 23, 2000 + 20 * k + 14) :: ((2000 + 20 * k, 22, 2000 + 20 * k + 13) :: ((2000 + 20 * k, 21, 2000 + 20 * k + 12) :: ((2000 + 20 * k, 20, 2000 + 20 * k + 11) :: ((2000 + 20 * k, 19, 2000 + 20 * k + 10) :: ((2000 + 20 * k, 18, 2000 + 20 * k + 9) :: ((2000 + 20 * k, 17, 2000 + 20 * k + 8) :: ((2000 + 20 * k, 16, 2000 + 20 * k + 7) :: ((2000 + 20 * k, 15, 2000 + 20 * k + 6) :: ((2000 + 20 * k, 14, 2000 + 20 * k + 5) :: ((2000 + 20 * k, 13, 2000 + 20 * k + 4) :: ((2000 + 20 * k, 12, 2000 + 20 * k + 3) :: ((2000 + 20 * k, 11, 2000 + 20 * k + 2) :: ((2000 + 20 * k, 10, 2000 + 20 * k + 1) :: [])))))))))))))))))))) (dom ++ ((((((((((((((((((([2000 + 20 * k] ++ [2000 + 20 * k + 1]) ++ [2000 + 20 * k + 2]) ++ [2000 + 20 * k + 3]) ++ [2000 + 20 * k + 4]) ++ [2000 + 20 * k + 5]) ++ [2000 + 20 * k + 6]) ++ [2000 + 20 * k + 7]) ++ [2000 + 20 * k + 8]) ++ [2000 + 20 * k + 9]) ++ [2000 + 20 * k + 10]) ++ [2000 + 20 * k + 11]) ++ [2000 + 20 * k + 12]) ++ [2000 + 20 * k + 13]) ++ [2000 + 20 * k + 14]) ++ [2000 + 20 * k + 15]) ++ [2000 + 20 * k + 16]) ++ [2000 + 20 * k + 17]) ++ [2000 + 20 * k + 18]) ++ [2000 + 20 * k + 19]))) : CT G 2 19 231 yX12_init cX12_init 1 none [.ref (2000 + 20 * k)] (clr mi (2000 + 20 * k)) (clrl ml (2000 + 20 * k)) (clrr mr (2000 + 20 * k)) (dom ++ [2000 + 20 * k]) post := by
  rw [clr_1, clrl_1, clrr_1]
  refine enter 0 (by decide) rfl rfl (fun X => ?_)
  refine j_aload_n dX12_init_0 rfl rfl ?_
  refine oI12_3 dX12_init_1 (by decide) (Nat.le_of_ble_eq_true rfl) ?_
  refine j_aload_n dX12_init_4 rfl rfl ?_
  refine j_bipush (v := 6) dX12_init_5 (by decide) ?_
  refine j_newI (a := (2000 + 20 * k + 1)) (kdM k 1 (by decide)) (lnM k 1 (by decide)) rfl rfl (by decide) dX12_init_7 (nin hfr (inMB _ 1 (by decide)) (by simp)) (by unfold lit; omega) (by decide) (by decide) (canon (by simp) ?_)
  refine pR12_9 (kdM k 0 (by decide)) rfl dX12_init_9 ?_
  rw [upr_s]
  refine j_aload_n dX12_init_12 rfl rfl ?_
  refine j_bipush (v := 36) dX12_init_13 (by decide) ?_
  refine j_newI (a := (2000 + 20 * k + 2)) (kdM k 2 (by decide)) (lnM k 2 (by decide)) rfl rfl (by decide) dX12_init_15 (nin hfr (inMB _ 2 (by decide)) (by simp)) (by unfold lit; omega) (by decide) (by decide) (canon (by simp) ?_)
  refine pR12_15 (kdM k 0 (by decide)) rfl dX12_init_17 ?_
  rw [upr_s]
  refine j_aload_n dX12_init_20 rfl rfl ?_
  refine j_bipush (v := 36) dX12_init_21 (by decide) ?_
  refine j_newI (a := (2000 + 20 * k + 3)) (kdM k 3 (by decide)) (lnM k 3 (by decide)) rfl rfl (by decide) dX12_init_23 (nin hfr (inMB _ 3 (by decide)) (by simp)) (by unfold lit; omega) (by decide) (by decide) (canon (by simp) ?_)
  refine pR12_18 (kdM k 0 (by decide)) rfl dX12_init_25 ?_
  rw [upr_s]
  refine j_aload_n dX12_init_28 rfl rfl ?_
  refine j_bipush (v := 6) dX12_init_29 (by decide) ?_
  refine j_newI (a := (2000 + 20 * k + 4)) (kdM k 4 (by decide)) (lnM k 4 (by decide)) rfl rfl (by decide) dX12_init_31 (nin hfr (inMB _ 4 (by decide)) (by simp)) (by unfold lit; omega) (by decide) (by decide) (canon (by simp) ?_)
  refine pR12_21 (kdM k 0 (by decide)) rfl dX12_init_33 ?_
  rw [upr_s]
  refine j_aload_n dX12_init_36 rfl rfl ?_
  refine j_bipush (v := 6) dX12_init_37 (by decide) ?_
  refine j_newI (a := (2000 + 20 * k + 5)) (kdM k 5 (by decide)) (lnM k 5 (by decide)) rfl rfl (by decide) dX12_init_39 (nin hfr (inMB _ 5 (by decide)) (by simp)) (by unfold lit; omega) (by decide) (by decide) (canon (by simp) ?_)
  refine pR12_24 (kdM k 0 (by decide)) rfl dX12_init_41 ?_
  rw [upr_s]
  refine j_aload_n dX12_init_44 rfl rfl ?_
  refine j_bipush (v := 6) dX12_init_45 (by decide) ?_
  refine j_newI (a := (2000 + 20 * k + 6)) (kdM k 6 (by decide)) (lnM k 6 (by decide)) rfl rfl (by decide) dX12_init_47 (nin hfr (inMB _ 6 (by decide)) (by simp)) (by unfold lit; omega) (by decide) (by decide) (canon (by simp) ?_)
  refine pR12_27 (kdM k 0 (by decide)) rfl dX12_init_49 ?_
  rw [upr_s]
  refine j_aload_n dX12_init_52 rfl rfl ?_
  refine j_bipush (v := 30) dX12_init_53 (by decide) ?_
  refine j_newI (a := (2000 + 20 * k + 7)) (kdM k 7 (by decide)) (lnM k 7 (by decide)) rfl rfl (by decide) dX12_init_55 (nin hfr (inMB _ 7 (by decide)) (by simp)) (by unfold lit; omega) (by decide) (by decide) (canon (by simp) ?_)
  refine pR12_30 (kdM k 0 (by decide)) rfl dX12_init_57 ?_
  rw [upr_s]
  refine j_aload_n dX12_init_60 rfl rfl ?_
  refine j_iconst (v := 5) dX12_init_61 (by decide) ?_
  refine j_newI (a := (2000 + 20 * k + 8)) (kdM k 8 (by decide)) (lnM k 8 (by decide)) rfl rfl (by decide) dX12_init_62 (nin hfr (inMB _ 8 (by decide)) (by simp)) (by unfold lit; omega) (by decide) (by decide) (canon (by simp) ?_)
  refine pR12_33 (kdM k 0 (by decide)) rfl dX12_init_64 ?_
  rw [upr_s]
  refine j_aload_n dX12_init_67 rfl rfl ?_
  refine j_iconst (v := 5) dX12_init_68 (by decide) ?_
  refine j_newI (a := (2000 + 20 * k + 9)) (kdM k 9 (by decide)) (lnM k 9 (by decide)) rfl rfl (by decide) dX12_init_69 (nin hfr (inMB _ 9 (by decide)) (by simp)) (by unfold lit; omega) (by decide) (by decide) (canon (by simp) ?_)
  refine pR12_36 (kdM k 0 (by decide)) rfl dX12_init_71 ?_
  rw [upr_s]
  refine j_aload_n dX12_init_74 rfl rfl ?_
  refine j_iconst (v := 5) dX12_init_75 (by decide) ?_
  refine j_newI (a := (2000 + 20 * k + 10)) (kdM k 10 (by decide)) (lnM k 10 (by decide)) rfl rfl (by decide) dX12_init_76 (nin hfr (inMB _ 10 (by decide)) (by simp)) (by unfold lit; omega) (by decide) (by decide) (canon (by simp) ?_)
  refine pR12_39 (kdM k 0 (by decide)) rfl dX12_init_78 ?_
  rw [upr_s]
  refine j_aload_n dX12_init_81 rfl rfl ?_
  refine j_bipush (v := 8) dX12_init_82 (by decide) ?_
  refine j_newI (a := (2000 + 20 * k + 11)) (kdM k 11 (by decide)) (lnM k 11 (by decide)) rfl rfl (by decide) dX12_init_84 (nin hfr (inMB _ 11 (by decide)) (by simp)) (by unfold lit; omega) (by decide) (by decide) (canon (by simp) ?_)
  refine pR12_42 (kdM k 0 (by decide)) rfl dX12_init_86 ?_
  rw [upr_s]
  refine j_aload_n dX12_init_89 rfl rfl ?_
  refine j_bipush (v := 8) dX12_init_90 (by decide) ?_
  refine j_newI (a := (2000 + 20 * k + 12)) (kdM k 12 (by decide)) (lnM k 12 (by decide)) rfl rfl (by decide) dX12_init_92 (nin hfr (inMB _ 12 (by decide)) (by simp)) (by unfold lit; omega) (by decide) (by decide) (canon (by simp) ?_)
  refine pR12_45 (kdM k 0 (by decide)) rfl dX12_init_94 ?_
  rw [upr_s]
  refine j_aload_n dX12_init_97 rfl rfl ?_
  refine j_bipush (v := 8) dX12_init_98 (by decide) ?_
  refine j_newI (a := (2000 + 20 * k + 13)) (kdM k 13 (by decide)) (lnM k 13 (by decide)) rfl rfl (by decide) dX12_init_100 (nin hfr (inMB _ 13 (by decide)) (by simp)) (by unfold lit; omega) (by decide) (by decide) (canon (by simp) ?_)
  refine pR12_48 (kdM k 0 (by decide)) rfl dX12_init_102 ?_
  rw [upr_s]
  refine j_aload_n dX12_init_105 rfl rfl ?_
  refine j_iconst (v := 5) dX12_init_106 (by decide) ?_
  refine j_newI (a := (2000 + 20 * k + 14)) (kdM k 14 (by decide)) (lnM k 14 (by decide)) rfl rfl (by decide) dX12_init_107 (nin hfr (inMB _ 14 (by decide)) (by simp)) (by unfold lit; omega) (by decide) (by decide) (canon (by simp) ?_)
  refine pR12_51 (kdM k 0 (by decide)) rfl dX12_init_109 ?_
  rw [upr_s]
  refine j_aload_n dX12_init_112 rfl rfl ?_
  refine j_iconst (v := 5) dX12_init_113 (by decide) ?_
  refine j_newI (a := (2000 + 20 * k + 15)) (kdM k 15 (by decide)) (lnM k 15 (by decide)) rfl rfl (by decide) dX12_init_114 (nin hfr (inMB _ 15 (by decide)) (by simp)) (by unfold lit; omega) (by decide) (by decide) (canon (by simp) ?_)
  refine pR12_54 (kdM k 0 (by decide)) rfl dX12_init_116 ?_
  rw [upr_s]
  refine j_aload_n dX12_init_119 rfl rfl ?_
  refine j_iconst (v := 5) dX12_init_120 (by decide) ?_
  refine j_newI (a := (2000 + 20 * k + 16)) (kdM k 16 (by decide)) (lnM k 16 (by decide)) rfl rfl (by decide) dX12_init_121 (nin hfr (inMB _ 16 (by decide)) (by simp)) (by unfold lit; omega) (by decide) (by decide) (canon (by simp) ?_)
  refine pR12_57 (kdM k 0 (by decide)) rfl dX12_init_123 ?_
  rw [upr_s]
  refine j_aload_n dX12_init_126 rfl rfl ?_
  refine j_bipush (v := 17) dX12_init_127 (by decide) ?_
  refine j_newL (a := (2000 + 20 * k + 17)) (kdM k 17 (by decide)) (lnM k 17 (by decide)) rfl rfl (by decide) dX12_init_129 (nin hfr (inMB _ 17 (by decide)) (by simp)) (by unfold lit; omega) (by decide) (by decide) (canon (by simp) ?_)
  refine pR12_60 (kdM k 0 (by decide)) rfl dX12_init_131 ?_
  rw [upr_s]
  refine j_aload_n dX12_init_134 rfl rfl ?_
  refine j_bipush (v := 17) dX12_init_135 (by decide) ?_
  refine j_newI (a := (2000 + 20 * k + 18)) (kdM k 18 (by decide)) (lnM k 18 (by decide)) rfl rfl (by decide) dX12_init_137 (nin hfr (inMB _ 18 (by decide)) (by simp)) (by unfold lit; omega) (by decide) (by decide) (canon (by simp) ?_)
  refine pR12_64 (kdM k 0 (by decide)) rfl dX12_init_139 ?_
  rw [upr_s]
  refine j_aload_n dX12_init_142 rfl rfl ?_
  refine j_bipush (v := 17) dX12_init_143 (by decide) ?_
  refine j_newI (a := (2000 + 20 * k + 19)) (kdM k 19 (by decide)) (lnM k 19 (by decide)) rfl rfl (by decide) dX12_init_145 (nin hfr (inMB _ 19 (by decide)) (by simp)) (by unfold lit; omega) (by decide) (by decide) (canon (by simp) ?_)
  refine pR12_67 (kdM k 0 (by decide)) rfl dX12_init_147 ?_
  rw [upr_s]
  refine j_vret rfl dX12_init_150 ?_
  exact hp
def MA : List Nat := (List.range 13).map (fun r => 1000 + r)
theorem k_model (hfr : ∀ n ∈ dom, n ∉ MA) (hp : post none (clrs (up (clrs mi [1000]) 1000 2 (-1)) (((((((((((([] ++ [1001]) ++ [1002]) ++ [1003]) ++ [1004]) ++ [1005]) ++ [1006]) ++ [1007]) ++ [1008]) ++ [1009]) ++ [1010]) ++ [1011]) ++ [1012])) (clrsl ml (((((((((((([1000] ++ [1001]) ++ [1002]) ++ [1003]) ++ [1004]) ++ [1005]) ++ [1006]) ++ [1007]) ++ [1008]) ++ [1009]) ++ [1010]) ++ [1011]) ++ [1012])) (rs mr (((((((((((([1000] ++ [1001]) ++ [1002]) ++ [1003]) ++ [1004]) ++ [1005]) ++ [1006]) ++ [1007]) ++ [1008]) ++ [1009]) ++ [1010]) ++ [1011]) ++ [1012]) ((1000, 29, 1012) :: ((1000, 28, 1011) :: ((1000, 27, 1010) :: ((1000, 25, 1009) :: ((1000, 24, 1008) :: ((1000, 23, 1007) :: ((1000, 22, 1006) :: ((1000, 21, 1005) :: ((1000, 18, 1004) :: ((1000, 17, 1003) :: ((1000, 16, 1002) :: ((1000, 5, 1001) :: []))))))))))))) (dom ++ (((((((((((([1000] ++ [1001]) ++ [1002]) ++ [1003]) ++ [1004]) ++ [1005]) ++ [1006]) ++ [1007]) ++ [1008]) ++ [1009]) ++ [1010]) ++ [1011]) ++ [1012]))) : CT G 2 12 2147 yX13_init cX13_init 1 none [.ref 1000] (clr mi 1000) (clrl ml 1000) (clrr mr 1000) (dom ++ [1000]) post := by
  rw [clr_1, clrl_1, clrr_1]
  refine enter 0 (by decide) rfl rfl (fun X => ?_)
  refine j_aload_n dX13_init_0 rfl rfl ?_
  refine oI13_3 dX13_init_1 (by decide) (Nat.le_of_ble_eq_true rfl) ?_
  refine j_aload_n dX13_init_4 rfl rfl ?_
  refine j_iconst (v := -1) dX13_init_5 (by decide) ?_
  refine pI13_9 rfl dX13_init_6 ?_
  rw [← clrs_nil (up (clrs mi [1000]) 1000 2 (-1))]
  refine j_aload_n dX13_init_9 rfl rfl ?_
  refine j_sipush (v := 1100) dX13_init_10 (by decide) ?_
  refine j_newB (a := 1001) rfl rfl rfl rfl (by decide) dX13_init_13 (nin hfr (by decide) (by decide)) (by unfold lit; omega) (by decide) (by decide) (canon (by decide) ?_)
  refine pR13_13 rfl rfl dX13_init_15 ?_
  rw [upr_s]
  refine j_aload_n dX13_init_18 rfl rfl ?_
  refine j_bipush (v := 13) dX13_init_19 (by decide) ?_
  refine j_newI (a := 1002) rfl rfl rfl rfl (by decide) dX13_init_21 (nin hfr (by decide) (by decide)) (by unfold lit; omega) (by decide) (by decide) (canon (by decide) ?_)
  refine pR13_17 rfl rfl dX13_init_23 ?_
  rw [upr_s]
  refine j_aload_n dX13_init_26 rfl rfl ?_
  refine j_sipush (v := 208) dX13_init_27 (by decide) ?_
  refine j_newI (a := 1003) rfl rfl rfl rfl (by decide) dX13_init_30 (nin hfr (by decide) (by decide)) (by unfold lit; omega) (by decide) (by decide) (canon (by decide) ?_)
  refine pR13_21 rfl rfl dX13_init_32 ?_
  rw [upr_s]
  refine j_aload_n dX13_init_35 rfl rfl ?_
  refine j_bipush (v := 39) dX13_init_36 (by decide) ?_
  refine j_newI (a := 1004) rfl rfl rfl rfl (by decide) dX13_init_38 (nin hfr (by decide) (by decide)) (by unfold lit; omega) (by decide) (by decide) (canon (by decide) ?_)
  refine pR13_24 rfl rfl dX13_init_40 ?_
  rw [upr_s]
  refine j_aload_n dX13_init_43 rfl rfl ?_
  refine j_sipush (v := 160) dX13_init_44 (by decide) ?_
  refine j_newI (a := 1005) rfl rfl rfl rfl (by decide) dX13_init_47 (nin hfr (by decide) (by decide)) (by unfold lit; omega) (by decide) (by decide) (canon (by decide) ?_)
  refine pR13_27 rfl rfl dX13_init_49 ?_
  rw [upr_s]
  refine j_aload_n dX13_init_52 rfl rfl ?_
  refine j_sipush (v := 192) dX13_init_53 (by decide) ?_
  refine j_newI (a := 1006) rfl rfl rfl rfl (by decide) dX13_init_56 (nin hfr (by decide) (by decide)) (by unfold lit; omega) (by decide) (by decide) (canon (by decide) ?_)
  refine pR13_30 rfl rfl dX13_init_58 ?_
  rw [upr_s]
  refine j_aload_n dX13_init_61 rfl rfl ?_
  refine j_iconst (v := 5) dX13_init_62 (by decide) ?_
  refine j_newI (a := 1007) rfl rfl rfl rfl (by decide) dX13_init_63 (nin hfr (by decide) (by decide)) (by unfold lit; omega) (by decide) (by decide) (canon (by decide) ?_)
  refine pR13_33 rfl rfl dX13_init_65 ?_
  rw [upr_s]
  refine j_aload_n dX13_init_68 rfl rfl ?_
  refine j_iconst (v := 5) dX13_init_69 (by decide) ?_
  refine j_newI (a := 1008) rfl rfl rfl rfl (by decide) dX13_init_70 (nin hfr (by decide) (by decide)) (by unfold lit; omega) (by decide) (by decide) (canon (by decide) ?_)
  refine pR13_36 rfl rfl dX13_init_72 ?_
  rw [upr_s]
  refine j_aload_n dX13_init_75 rfl rfl ?_
  refine j_bipush (v := 6) dX13_init_76 (by decide) ?_
  refine j_newI (a := 1009) rfl rfl rfl rfl (by decide) dX13_init_78 (nin hfr (by decide) (by decide)) (by unfold lit; omega) (by decide) (by decide) (canon (by decide) ?_)
  refine pR13_39 rfl rfl dX13_init_80 ?_
  rw [upr_s]
  refine j_aload_n dX13_init_83 rfl rfl ?_
  refine j_sipush (v := 384) dX13_init_84 (by decide) ?_
  refine j_newI (a := 1010) rfl rfl rfl rfl (by decide) dX13_init_87 (nin hfr (by decide) (by decide)) (by unfold lit; omega) (by decide) (by decide) (canon (by decide) ?_)
  refine pR13_42 rfl rfl dX13_init_89 ?_
  rw [upr_s]
  refine j_aload_n dX13_init_92 rfl rfl ?_
  refine j_iconst (v := 5) dX13_init_93 (by decide) ?_
  refine j_newI (a := 1011) rfl rfl rfl rfl (by decide) dX13_init_94 (nin hfr (by decide) (by decide)) (by unfold lit; omega) (by decide) (by decide) (canon (by decide) ?_)
  refine pR13_45 rfl rfl dX13_init_96 ?_
  rw [upr_s]
  refine j_aload_n dX13_init_99 rfl rfl ?_
  refine j_bipush (v := 30) dX13_init_100 (by decide) ?_
  refine j_newI (a := 1012) rfl rfl rfl rfl (by decide) dX13_init_102 (nin hfr (by decide) (by decide)) (by unfold lit; omega) (by decide) (by decide) (canon (by decide) ?_)
  refine pR13_48 rfl rfl dX13_init_104 ?_
  rw [upr_s]
  refine j_vret rfl dX13_init_107 ?_
  exact hp
end KC
