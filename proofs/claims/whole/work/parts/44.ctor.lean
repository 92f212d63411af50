/-! constructors -/
def clrs (mi : MI) (l : List Nat) : MI := fun n i => if n ∈ l then 0 else mi n i
def clrsl (ml : ML) (l : List Nat) : ML := fun n i => if n ∈ l then 0 else ml n i
def ptl (pts : List (Nat × Nat × Nat)) (n j : Nat) : Option Nat := (pts.find? (fun q => q.1 == n && q.2.1 == j)).map (fun q => q.2.2)
def rs (mr : MR) (l : List Nat) (pts : List (Nat × Nat × Nat)) : MR := fun n j => match ptl pts n j with
  | some b => some b
  | none => if n ∈ l then none else mr n j
theorem clr_s (mi : MI) (l : List Nat) (a : Nat) : clr (clrs mi l) a = clrs mi (l ++ [a]) := by
  funext n i; unfold clr clrs
  by_cases h1 : n = a
  · simp [h1]
  · by_cases h2 : n ∈ l <;> simp [h1, h2]
theorem clrl_s (ml : ML) (l : List Nat) (a : Nat) : clrl (clrsl ml l) a = clrsl ml (l ++ [a]) := by
  funext n i; unfold clrl clrsl
  by_cases h1 : n = a
  · simp [h1]
  · by_cases h2 : n ∈ l <;> simp [h1, h2]
theorem ptl_no {pts : List (Nat × Nat × Nat)} {a : Nat} (h : ∀ q ∈ pts, q.1 ≠ a) (j : Nat) : ptl pts a j = none := by
  unfold ptl
  rw [List.find?_eq_none.mpr (fun q hq => by simp [h q hq])]; rfl
theorem clrr_s (mr : MR) (l : List Nat) {pts : List (Nat × Nat × Nat)} {a : Nat} (h : ∀ q ∈ pts, q.1 ≠ a) : clrr (rs mr l pts) a = rs mr (l ++ [a]) pts := by
  funext n i; unfold clrr rs
  by_cases h1 : n = a
  · subst h1; rw [ptl_no h, if_pos rfl]; simp
  · rw [if_neg h1]
    cases ptl pts n i with
    | some b => rfl
    | none => by_cases h2 : n ∈ l <;> simp [h1, h2]
theorem upr_s (mr : MR) (l : List Nat) (pts : List (Nat × Nat × Nat)) (a j b : Nat) : upr (rs mr l pts) a j (some b) = rs mr l ((a, j, b) :: pts) := by
  funext n i; unfold upr rs ptl
  by_cases h1 : n = a
  · subst h1
    by_cases h2 : i = j
    · subst h2; simp
    · have : (j == i) = false := by simp; exact fun e => h2 e.symm
      simp [h2, this]
  · have : (a == n) = false := by simp; exact fun e => h1 e.symm
    simp [h1, this]
theorem up_s0 (mi : MI) {l : List Nat} {a : Nat} (j : Nat) (h : a ∈ l) : up (clrs mi l) a j 0 = clrs mi l := by
  funext n i; unfold up clrs
  by_cases h1 : n = a
  · subst h1; simp [h]
  · simp [h1]
theorem upl_s0 (ml : ML) {l : List Nat} {a : Nat} (j : Nat) (h : a ∈ l) : upl (clrsl ml l) a j 0 = clrsl ml l := by
  funext n i; unfold upl clrsl
  by_cases h1 : n = a
  · subst h1; simp [h]
  · simp [h1]
theorem clrs_nil (mi : MI) : clrs mi [] = mi := by funext n i; simp [clrs]
theorem clrsl_nil (ml : ML) : clrsl ml [] = ml := by funext n i; simp [clrsl]
theorem rs_nil (mr : MR) : rs mr [] [] = mr := by funext n i; simp [rs, ptl]
theorem nin {dom BL l : List Nat} {a : Nat} (h : ∀ n ∈ dom, n ∉ BL) (h1 : a ∈ BL) (h2 : a ∉ l) : a ∉ dom ++ l := fun q => (List.mem_append.mp q).elim (fun q => h a q h1) h2
theorem canon {cc : ByteArray} {nL : Nat} {own nm : String} {rt : Option FieldType} {d : Nat} {G : GG} {X : Cx} {post : PT} {bc bs : Nat} {mi : MI} {ml : ML} {mr : MR} {dom l : List Nat} {pts : List (Nat × Nat × Nat)} {pc a : Nat} {lv : List (Option Value)} {st : List Value} (h : ∀ q ∈ pts, q.1 ≠ a) (k : J cc nL own nm rt d G X post bc bs (clrs mi (l ++ [a])) (clrsl ml (l ++ [a])) (rs mr (l ++ [a]) pts) (dom ++ (l ++ [a])) pc lv st) : J cc nL own nm rt d G X post bc bs (clr (clrs mi l) a) (clrl (clrsl ml l) a) (clrr (rs mr l pts) a) (dom ++ l ++ [a]) pc lv st := by
  rw [clr_s, clrl_s, clrr_s _ _ h, List.append_assoc]; exact k
section KO
variable {cc : ByteArray} {nL : Nat} {own nm : String} {rt : Option FieldType} {d : Nat} {G : GG} {X : Cx} {post : PT} {bc bs : Nat} {mi : MI} {ml : ML} {mr : MR} {dom : List Nat} {pc b : Nat} {lv : List (Option Value)} {st : List Value}
theorem j_obj {index : Nat} (hlink : Cond.methodLink own index Lib.objectInit ∈ wtbl) (hd : decode cc pc = .ok (.invokespecial index, 3)) (h1 : 1 ≤ d) (hst : (st.map fun v => v.category).sum ≤ 8) (k : J cc nL own nm rt d G X post bc bs mi ml mr dom (pc + 3) lv st) : J cc nL own nm rt d G X post bc bs mi ml mr dom pc lv (.ref b :: st) := by
  obtain ⟨p, l, e, R, s, m, args, below, meth, c, ad0, dom0⟩ := X
  intro ok ad H locs cells slots ls hR hS hE hc hs hl hol hos
  refine W.objInit ok.1 ok.2.1 ok.2.2.2.1 (ok.2.2.2.2.1 _ hlink) (ok.2.2.2.2.1 _ wd138) (ok.2.2.2.2.1 _ wd139) rfl (by rw [ok.2.2.1]; exact hl.1) rfl hd (by rw [ok.2.2.2.2.2.2.2.2.2.1]; exact h1) ?_ (k ok ad H locs cells slots ls hR hS hE hc hs hl hol hos.t)
  rw [rn_cats, ok.2.2.2.2.2.2.2.2.2.2]
  show 2 * 0 + _ + 12 ≤ _
  omega
theorem oI11_3 (hd : decode cc pc = .ok (.invokespecial 3, 3)) (hdd : 1 ≤ d) (hst : (st.map fun v => v.category).sum ≤ 8) (k : J cc nL RX11 nm rt d G X post bc bs mi ml mr dom (pc + 3) lv st) : J cc nL RX11 nm rt d G X post bc bs mi ml mr dom pc lv (.ref b :: st) := j_obj wd137 hd hdd hst k
theorem oI9_3 (hd : decode cc pc = .ok (.invokespecial 3, 3)) (hdd : 1 ≤ d) (hst : (st.map fun v => v.category).sum ≤ 8) (k : J cc nL RX9 nm rt d G X post bc bs mi ml mr dom (pc + 3) lv st) : J cc nL RX9 nm rt d G X post bc bs mi ml mr dom pc lv (.ref b :: st) := j_obj wd145 hd hdd hst k
theorem oI2_3 (hd : decode cc pc = .ok (.invokespecial 3, 3)) (hdd : 1 ≤ d) (hst : (st.map fun v => v.category).sum ≤ 8) (k : J cc nL RX2 nm rt d G X post bc bs mi ml mr dom (pc + 3) lv st) : J cc nL RX2 nm rt d G X post bc bs mi ml mr dom pc lv (.ref b :: st) := j_obj wd151 hd hdd hst k
theorem oI3_3 (hd : decode cc pc = .ok (.invokespecial 3, 3)) (hdd : 1 ≤ d) (hst : (st.map fun v => v.category).sum ≤ 8) (k : J cc nL RX3 nm rt d G X post bc bs mi ml mr dom (pc + 3) lv st) : J cc nL RX3 nm rt d G X post bc bs mi ml mr dom pc lv (.ref b :: st) := j_obj wd181 hd hdd hst k
theorem oI1_1 (hd : decode cc pc = .ok (.invokespecial 1, 3)) (hdd : 1 ≤ d) (hst : (st.map fun v => v.category).sum ≤ 8) (k : J cc nL RX1 nm rt d G X post bc bs mi ml mr dom (pc + 3) lv st) : J cc nL RX1 nm rt d G X post bc bs mi ml mr dom pc lv (.ref b :: st) := j_obj wd212 hd hdd hst k
theorem oI10_1 (hd : decode cc pc = .ok (.invokespecial 1, 3)) (hdd : 1 ≤ d) (hst : (st.map fun v => v.category).sum ≤ 8) (k : J cc nL RX10 nm rt d G X post bc bs mi ml mr dom (pc + 3) lv st) : J cc nL RX10 nm rt d G X post bc bs mi ml mr dom pc lv (.ref b :: st) := j_obj wd238 hd hdd hst k
theorem oI5_1 (hd : decode cc pc = .ok (.invokespecial 1, 3)) (hdd : 1 ≤ d) (hst : (st.map fun v => v.category).sum ≤ 8) (k : J cc nL RX5 nm rt d G X post bc bs mi ml mr dom (pc + 3) lv st) : J cc nL RX5 nm rt d G X post bc bs mi ml mr dom pc lv (.ref b :: st) := j_obj wd262 hd hdd hst k
theorem oI6_3 (hd : decode cc pc = .ok (.invokespecial 3, 3)) (hdd : 1 ≤ d) (hst : (st.map fun v => v.category).sum ≤ 8) (k : J cc nL RX6 nm rt d G X post bc bs mi ml mr dom (pc + 3) lv st) : J cc nL RX6 nm rt d G X post bc bs mi ml mr dom pc lv (.ref b :: st) := j_obj wd377 hd hdd hst k
theorem oI4_5 (hd : decode cc pc = .ok (.invokespecial 5, 3)) (hdd : 1 ≤ d) (hst : (st.map fun v => v.category).sum ≤ 8) (k : J cc nL RX4 nm rt d G X post bc bs mi ml mr dom (pc + 3) lv st) : J cc nL RX4 nm rt d G X post bc bs mi ml mr dom pc lv (.ref b :: st) := j_obj wd488 hd hdd hst k
theorem oI0_3 (hd : decode cc pc = .ok (.invokespecial 3, 3)) (hdd : 1 ≤ d) (hst : (st.map fun v => v.category).sum ≤ 8) (k : J cc nL RX0 nm rt d G X post bc bs mi ml mr dom (pc + 3) lv st) : J cc nL RX0 nm rt d G X post bc bs mi ml mr dom pc lv (.ref b :: st) := j_obj wd515 hd hdd hst k
theorem oI7_3 (hd : decode cc pc = .ok (.invokespecial 3, 3)) (hdd : 1 ≤ d) (hst : (st.map fun v => v.category).sum ≤ 8) (k : J cc nL RX7 nm rt d G X post bc bs mi ml mr dom (pc + 3) lv st) : J cc nL RX7 nm rt d G X post bc bs mi ml mr dom pc lv (.ref b :: st) := j_obj wd541 hd hdd hst k
theorem oI8_3 (hd : decode cc pc = .ok (.invokespecial 3, 3)) (hdd : 1 ≤ d) (hst : (st.map fun v => v.category).sum ≤ 8) (k : J cc nL RX8 nm rt d G X post bc bs mi ml mr dom (pc + 3) lv st) : J cc nL RX8 nm rt d G X post bc bs mi ml mr dom pc lv (.ref b :: st) := j_obj wd557 hd hdd hst k
theorem oI13_3 (hd : decode cc pc = .ok (.invokespecial 3, 3)) (hdd : 1 ≤ d) (hst : (st.map fun v => v.category).sum ≤ 8) (k : J cc nL RX13 nm rt d G X post bc bs mi ml mr dom (pc + 3) lv st) : J cc nL RX13 nm rt d G X post bc bs mi ml mr dom pc lv (.ref b :: st) := j_obj wd1357 hd hdd hst k
theorem oI12_3 (hd : decode cc pc = .ok (.invokespecial 3, 3)) (hdd : 1 ≤ d) (hst : (st.map fun v => v.category).sum ≤ 8) (k : J cc nL RX12 nm rt d G X post bc bs mi ml mr dom (pc + 3) lv st) : J cc nL RX12 nm rt d G X post bc bs mi ml mr dom pc lv (.ref b :: st) := j_obj wd1476 hd hdd hst k
end KO
section KC
variable {G : GG} {post : PT} {mi : MI} {ml : ML} {mr : MR} {dom BL l : List Nat} {pts : List (Nat × Nat × Nat)} {T p : Nat}
theorem k_person {a : Nat} (hfr : ∀ n ∈ dom, n ∉ BL) (ha : a ∈ l) (hk : kd a = 3) (hk2 : kd (a + 10) = 15) (hl2 : ln (a + 10) = 5) (hb : a + 10 ∈ BL) (hn : a + 10 ∉ l) (hlt : ¬ lit (a + 10)) (hpt : ∀ q ∈ pts, q.1 ≠ a + 10) (hp : post none (clrs mi (l ++ [(a + 10)])) (clrsl ml (l ++ [(a + 10)])) (rs mr (l ++ [(a + 10)]) ((a, 3, a + 10) :: pts)) (dom ++ (l ++ [(a + 10)]))) : CT G 2 1 5 yX3_init cX3_init 1 none [.ref a] (clrs mi l) (clrsl ml l) (rs mr l pts) (dom ++ l) post := by
  refine enter 0 (by decide) rfl rfl (fun X => ?_)
  refine j_aload_n dX3_init_0 rfl rfl ?_
  refine oI3_3 dX3_init_1 (by decide) (Nat.le_of_ble_eq_true rfl) ?_
  refine j_aload_n dX3_init_4 rfl rfl ?_
  refine j_iconst (v := 0) dX3_init_5 (by decide) ?_
  refine pI3_9 hk dX3_init_6 ?_
  rw [up_s0 _ _ ha]
  refine j_aload_n dX3_init_9 rfl rfl ?_
  refine j_iconst (v := 0) dX3_init_10 (by decide) ?_
  refine pI3_15 hk dX3_init_11 ?_
  rw [up_s0 _ _ ha]
  refine j_aload_n dX3_init_14 rfl rfl ?_
  refine j_iconst (v := 0) dX3_init_15 (by decide) ?_
  refine pI3_18 hk dX3_init_16 ?_
  rw [up_s0 _ _ ha]
  refine j_aload_n dX3_init_19 rfl rfl ?_
  refine j_iconst (v := 5) dX3_init_20 (by decide) ?_
  refine j_newI (a := (a + 10)) hk2 hl2 rfl rfl (by decide) dX3_init_21 (nin hfr hb hn) hlt (by decide) (by decide) (canon hpt ?_)
  refine pR3_21 hk rfl dX3_init_23 ?_
  rw [upr_s]
  refine j_vret rfl dX3_init_26 ?_
  exact hp
theorem k_good {a : Nat} (hfr : ∀ n ∈ dom, n ∉ BL) (ha : a ∈ l) (hk : kd a = 1) (hp : post none (clrs mi l) (clrsl ml l) (rs mr l pts) (dom ++ l)) : CT G 2 0 0 yX1_init cX1_init 1 none [.ref a] (clrs mi l) (clrsl ml l) (rs mr l pts) (dom ++ l) post := by
  refine enter 0 (by decide) rfl rfl (fun X => ?_)
  refine j_aload_n dX1_init_0 rfl rfl ?_
  refine oI1_1 dX1_init_1 (by decide) (Nat.le_of_ble_eq_true rfl) ?_
  refine j_aload_n dX1_init_4 rfl rfl ?_
  refine j_iconst (v := 0) dX1_init_5 (by decide) ?_
  refine pI1_7 hk dX1_init_6 ?_
  rw [up_s0 _ _ ha]
  refine j_aload_n dX1_init_9 rfl rfl ?_
  refine j_iconst (v := 0) dX1_init_10 (by decide) ?_
  refine pI1_13 hk dX1_init_11 ?_
  rw [up_s0 _ _ ha]
  refine j_aload_n dX1_init_14 rfl rfl ?_
  refine j_iconst (v := 0) dX1_init_15 (by decide) ?_
  refine pI1_16 hk dX1_init_16 ?_
  rw [up_s0 _ _ ha]
  refine j_vret rfl dX1_init_19 ?_
  exact hp
theorem k_visit {a : Nat} (hfr : ∀ n ∈ dom, n ∉ BL) (ha : a ∈ l) (hk : kd a = 10) (hp : post none (clrs mi l) (clrsl ml l) (rs mr l pts) (dom ++ l)) : CT G 2 0 0 yX10_init cX10_init 1 none [.ref a] (clrs mi l) (clrsl ml l) (rs mr l pts) (dom ++ l) post := by
  refine enter 0 (by decide) rfl rfl (fun X => ?_)
  refine j_aload_n dX10_init_0 rfl rfl ?_
  refine oI10_1 dX10_init_1 (by decide) (Nat.le_of_ble_eq_true rfl) ?_
  refine j_aload_n dX10_init_4 rfl rfl ?_
  refine j_iconst (v := 0) dX10_init_5 (by decide) ?_
  refine pI10_7 hk dX10_init_6 ?_
  rw [up_s0 _ _ ha]
  refine j_aload_n dX10_init_9 rfl rfl ?_
  refine j_iconst (v := 0) dX10_init_10 (by decide) ?_
  refine pI10_13 hk dX10_init_11 ?_
  rw [up_s0 _ _ ha]
  refine j_aload_n dX10_init_14 rfl rfl ?_
  refine j_iconst (v := 0) dX10_init_15 (by decide) ?_
  refine pI10_16 hk dX10_init_16 ?_
  rw [up_s0 _ _ ha]
  refine j_vret rfl dX10_init_19 ?_
  exact hp
theorem k_print {a : Nat} (hfr : ∀ n ∈ dom, n ∉ BL) (ha : a ∈ l) (hk : kd a = 5) (hp : post none (clrs mi l) (clrsl ml l) (rs mr l pts) (dom ++ l)) : CT G 2 0 0 yX5_init cX5_init 1 none [.ref a] (clrs mi l) (clrsl ml l) (rs mr l pts) (dom ++ l) post := by
  refine enter 0 (by decide) rfl rfl (fun X => ?_)
  refine j_aload_n dX5_init_0 rfl rfl ?_
  refine oI5_1 dX5_init_1 (by decide) (Nat.le_of_ble_eq_true rfl) ?_
  refine j_aload_n dX5_init_4 rfl rfl ?_
  refine j_iconst (v := 0) dX5_init_5 (by decide) ?_
  refine pI5_7 hk dX5_init_6 ?_
  rw [up_s0 _ _ ha]
  refine j_aload_n dX5_init_9 rfl rfl ?_
  refine j_iconst (v := 0) dX5_init_10 (by decide) ?_
  refine pI5_13 hk dX5_init_11 ?_
  rw [up_s0 _ _ ha]
  refine j_aload_n dX5_init_14 rfl rfl ?_
  refine j_iconst (v := 0) dX5_init_15 (by decide) ?_
  refine pI5_16 hk dX5_init_16 ?_
  rw [up_s0 _ _ ha]
  refine j_vret rfl dX5_init_19 ?_
  exact hp
theorem k_lanes {a : Nat} (hfr : ∀ n ∈ dom, n ∉ BL) (ha : a ∈ l) (hk : kd a = 2) (hk1 : kd (a + 1) = 15) (hk2 : kd (a + 2) = 15) (hl1 : ln (a + 1) = 36) (hl2 : ln (a + 2) = 36) (hb1 : a + 1 ∈ BL) (hb2 : a + 2 ∈ BL) (hn1 : a + 1 ∉ l) (hn2 : a + 2 ∉ l) (hlt1 : ¬ lit (a + 1)) (hlt2 : ¬ lit (a + 2)) (hpt1 : ∀ q ∈ pts, q.1 ≠ a + 1) (hpt2 : ∀ q ∈ pts, q.1 ≠ a + 2) (hp : post none (clrs mi ((l ++ [(a + 1)]) ++ [(a + 2)])) (clrsl ml ((l ++ [(a + 1)]) ++ [(a + 2)])) (rs mr ((l ++ [(a + 1)]) ++ [(a + 2)]) ((a, 2, a + 2) :: ((a, 1, a + 1) :: pts))) (dom ++ ((l ++ [(a + 1)]) ++ [(a + 2)]))) : CT G 2 2 72 yX2_init cX2_init 1 none [.ref a] (clrs mi l) (clrsl ml l) (rs mr l pts) (dom ++ l) post := by
  refine enter 0 (by decide) rfl rfl (fun X => ?_)
  refine j_aload_n dX2_init_0 rfl rfl ?_
  refine oI2_3 dX2_init_1 (by decide) (Nat.le_of_ble_eq_true rfl) ?_
  refine j_aload_n dX2_init_4 rfl rfl ?_
  refine j_iconst (v := 0) dX2_init_5 (by decide) ?_
  refine pI2_9 hk dX2_init_6 ?_
  rw [up_s0 _ _ ha]
  refine j_aload_n dX2_init_9 rfl rfl ?_
  refine j_bipush (v := 36) dX2_init_10 (by decide) ?_
  refine j_newI (a := (a + 1)) hk1 hl1 rfl rfl (by decide) dX2_init_12 (nin hfr hb1 hn1) hlt1 (by decide) (by decide) (canon hpt1 ?_)
  refine pR2_15 hk rfl dX2_init_14 ?_
  rw [upr_s]
  refine j_aload_n dX2_init_17 rfl rfl ?_
  refine j_bipush (v := 36) dX2_init_18 (by decide) ?_
  refine j_newI (a := (a + 2)) hk2 hl2 rfl rfl (by decide) dX2_init_20 (nin hfr hb2 (fun q => (List.mem_append.mp q).elim hn2 (fun q => absurd (List.mem_singleton.mp q) (by omega)))) hlt2 (by decide) (by decide) (canon (List.forall_mem_cons.mpr ⟨show a ≠ a + 2 by omega, hpt2⟩) ?_)
  refine pR2_19 hk rfl dX2_init_22 ?_
  rw [upr_s]
  refine j_aload_n dX2_init_25 rfl rfl ?_
  refine j_iconst (v := 0) dX2_init_26 (by decide) ?_
  refine pI2_22 hk dX2_init_27 ?_
  rw [up_s0 _ _ (List.mem_append_left _ (List.mem_append_left _ ha))]
  refine j_vret rfl dX2_init_30 ?_
  exact hp
end KC
