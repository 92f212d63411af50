/-! ROWS: new objects and arrays -/
def clr (mi : MI) (a : Nat) : MI := fun n i => if n = a then 0 else mi n i
def clrl (ml : ML) (a : Nat) : ML := fun n i => if n = a then 0 else ml n i
def clrr (mr : MR) (a : Nat) : MR := fun n i => if n = a then none else mr n i
theorem clr_at (mi : MI) (a i : Nat) : clr mi a a i = 0 := by simp [clr]
theorem clr_off (mi : MI) {a n : Nat} (h : n ≠ a) : clr mi a n = mi n := by funext i; simp [clr, h]
theorem clrl_at (ml : ML) (a i : Nat) : clrl ml a a i = 0 := by simp [clrl]
theorem clrl_off (ml : ML) {a n : Nat} (h : n ≠ a) : clrl ml a n = ml n := by funext i; simp [clrl, h]
theorem clrr_at (mr : MR) (a i : Nat) : clrr mr a a i = none := by simp [clrr]
theorem clrr_off (mr : MR) {a n : Nat} (h : n ≠ a) : clrr mr a n = mr n := by funext i; simp [clrr, h]
def adx (ad : Nat → Nat) (a q : Nat) : Nat → Nat := fun n => if n = a then q else ad n
theorem okn_ne {dom : List Nat} {a b : Nat} (ha : a ∉ dom) (hl : ¬ lit a) (h : okn dom b) : b ≠ a := fun e => by
  subst e
  exact h.elim ha hl
theorem rn_adx {dom : List Nat} {ad : Nat → Nat} {a q : Nat} {v : Value} (ha : a ∉ dom) (hl : ¬ lit a) (h : okv dom v) : rn (adx ad a q) v = rn ad v := by
  cases v with
  | ref b => show Value.ref (adx ad a q b) = .ref (ad b); unfold adx; rw [if_neg (okn_ne ha hl (h b rfl))]
  | _ => rfl
theorem rns_adx {dom : List Nat} {ad : Nat → Nat} {a q : Nat} {st : List Value} (ha : a ∉ dom) (hl : ¬ lit a) (h : oks dom st) : st.map (rn (adx ad a q)) = st.map (rn ad) := List.map_congr_left (fun v hv => rn_adx ha hl (h v hv))
theorem fm_congr {α β : Type} {f g : α → Option β} : ∀ (l : List α), (∀ x ∈ l, f x = g x) → l.filterMap f = l.filterMap g
  | [], _ => rfl
  | x :: l, h => by simp only [List.filterMap_cons, h x List.mem_cons_self, fm_congr l (fun y hy => h y (List.mem_cons_of_mem _ hy))]
theorem lvl_adx {dom : List Nat} {ad : Nat → Nat} {a q : Nat} {lv : List (Option Value)} (ha : a ∉ dom) (hl : ¬ lit a) (h : okl dom lv) : lvl (adx ad a q) lv = lvl ad lv := by
  unfold lvl
  refine fm_congr _ (fun k hk => ?_)
  cases e : lv.getD k none with
  | none => rfl
  | some w =>
    have hk := List.mem_range.mp hk
    have hw : some w ∈ lv := by
      rw [List.getD_eq_getElem?_getD, List.getElem?_eq_getElem hk] at e
      simp at e
      rw [← e]; exact List.getElem_mem hk
    simp only [Option.map_some]
    rw [rn_adx ha hl (h w hw)]
theorem okn.app {dom : List Nat} {n : Nat} (l : List Nat) (h : okn dom n) : okn (dom ++ l) n := h.elim (fun h => Or.inl (List.mem_append_left _ h)) Or.inr
theorem okv.app {dom : List Nat} {v : Value} (l : List Nat) (h : okv dom v) : okv (dom ++ l) v := fun n hn => (h n hn).app l
theorem oks.app {dom : List Nat} {st : List Value} (l : List Nat) (h : oks dom st) : oks (dom ++ l) st := fun v hv => (h v hv).app l
theorem okl.app {dom : List Nat} {lv : List (Option Value)} (l : List Nat) (h : okl dom lv) : okl (dom ++ l) lv := fun v hv => (h v hv).app l
theorem map_adx {dom : List Nat} {ad : Nat → Nat} {a q : Nat} {r : Option Nat} (ha : a ∉ dom) (hl : ¬ lit a) (h : ∀ b, r = some b → okn dom b) : r.map (adx ad a q) = r.map ad := by
  cases r with
  | none => rfl
  | some b => show some (adx ad a q b) = some (ad b); unfold adx; rw [if_neg (okn_ne ha hl (h b rfl))]
theorem cel_adx {G : GG} {dom : List Nat} {ad : Nat → Nat} {mi : MI} {ml : ML} {mr : MR} {a q n : Nat} (ha : a ∉ dom) (hl : ¬ lit a) (hn : n ∈ dom) (h : ∀ j b, mr n j = some b → okn dom b) : cel G (adx ad a q) (clr mi a) (clrl ml a) (clrr mr a) n = cel G ad mi ml mr n := by
  have hna : n ≠ a := fun e => ha (e ▸ hn)
  have e1 : (fun j => (mr n j).map (adx ad a q)) = fun j => (mr n j).map ad := funext (fun j => map_adx ha hl (h j))
  unfold cel sv ar
  rw [clr_off _ hna, clrl_off _ hna, clrr_off _ hna, e1]
  have e2 : ∀ j, (mr n j).map (adx ad a q) = (mr n j).map ad := fun j => map_adx ha hl (h j)
  simp only [e2]
theorem Rel.push {G : GG} {ad : Nat → Nat} {mi : MI} {ml : ML} {mr : MR} {dom : List Nat} {H H1 : Heap} {a q : Nat} {e : va_E} (hR : Rel G ad mi ml mr dom H) (ha : a ∉ dom) (hl : ¬ lit a) (he : cel G (adx ad a q) (clr mi a) (clrl ml a) (clrr mr a) a = e) (hP : va_P G.1 vwCl (wl G ad mi ml mr dom ++ [(q, e)]) H1) (hD : va_D (gA G) (wl G ad mi ml mr dom ++ [(q, e)])) : Rel G (adx ad a q) (clr mi a) (clrl ml a) (clrr mr a) (dom ++ [a]) H1 := by
  have hw : wl G (adx ad a q) (clr mi a) (clrl ml a) (clrr mr a) (dom ++ [a]) = wl G ad mi ml mr dom ++ [(q, e)] := by
    unfold wl
    rw [List.map_append]
    congr 1
    · refine List.map_congr_left (fun n hn => ?_)
      rw [cel_adx ha hl hn (fun j b hb => hR.2.2.1 n hn j b hb)]
      have : n ≠ a := fun e => ha (e ▸ hn)
      unfold adx; rw [if_neg this]
    · show [(adx ad a q a, _)] = _
      rw [he]; unfold adx; rw [if_pos rfl]
  refine ⟨by rw [hw]; exact hP, by rw [hw]; exact hD, fun n hn j b hb => ?_, fun n hn => ?_, fun n hn => ?_⟩
  · by_cases e : n = a
    · rw [e, clrr_at] at hb; cases hb
    · rw [clrr_off _ e] at hb
      have hn : n ∈ dom := by
        rcases List.mem_append.mp hn with h | h
        · exact h
        · exact absurd (List.mem_singleton.mp h) e
      exact (hR.2.2.1 n hn j b hb).app _
  · have : n ≠ a := fun e => hl (e ▸ hn)
    unfold adx; rw [if_neg this]; exact hR.2.2.2.1 n hn
  · rcases List.mem_append.mp hn with h | h
    · exact hR.2.2.2.2 n h
    · rw [List.mem_singleton.mp h]; exact hl
/-- arrays of the class's own objects can be made -/
def GA (G : GG) : Prop := ∀ U : State, G.2.2.2.2 U → va_AO RX1 U ∧ va_AO RX3 U ∧ va_AO RX5 U ∧ va_AO RX10 U
section RN
variable {cc : ByteArray} {nL : Nat} {own nm : String} {rt : Option FieldType} {d : Nat} {G : GG} {X : Cx} {post : PT} {bc bs : Nat} {mi : MI} {ml : ML} {mr : MR} {dom : List Nat} {pc : Nat} {lv : List (Option Value)} {st : List Value}
theorem j_new {a k N index : Nat} {C : String} {T : u_T} {tys : Nat → FieldType} (hk : kd a = k) (h14 : k < 14) (hc : vwCl[k]? = some (C, T, N)) (hN : nf k = N) (hin : ∀ w ∈ u_ws C T N, w ∈ wtbl) (hty : ∀ k, k < N → parseFieldDescriptor (T k).2.2.1 = some (tys k)) (hcl : Cond.classLink own index C ∈ wtbl) (hinst : Cond.instantiable C N ∈ wtbl) (hini : Cond.initialized C ∈ wtbl) (hdf : ∀ j, j < N → defaultValue (tys j) = if ft k j = 0 then .int 0 else if ft k j = 1 then .long 0 else .null) (hd : decode cc pc = .ok (.new index, 3)) (ha : a ∉ dom) (hl : ¬ lit a) (hbc : 1 ≤ bc) (hbs : N ≤ bs)
    (kk : J cc nL own nm rt d G X post (bc - 1) (bs - N) (clr mi a) (clrl ml a) (clrr mr a) (dom ++ [a]) (pc + 3) lv (.ref a :: st)) : J cc nL own nm rt d G X post bc bs mi ml mr dom pc lv st := by
  obtain ⟨p, l, e, R, s, m, args, below, meth, c, ad0, dom0⟩ := X
  intro ok ad H locs cells slots ls hR hS hE hc2 hs hlv hol hos
  have hkn : KN G s := ok.2.2.2.2.2.1
  have hfs : ∀ j, j < N → defaultValue (tys j) = vp_V ((List.range N).map (fun j => if ft k j = 0 then Value.int 0 else if ft k j = 1 then .long 0 else .null)) j := fun j hj => by
    rw [hdf j hj]; unfold vp_V; simp [List.getD_eq_getElem?_getD, hj]
  refine va_new ok.1 ok.2.1 ok.2.2.2.2.1 hin tys hty ok.2.2.2.1 (ok.2.2.2.2.1 _ hcl) (ok.2.2.2.2.1 _ hinst) (ok.2.2.2.2.1 _ hini) hkn.1 hR.1 hR.2.1 hS (fun q hq => hq) hc hfs (by omega) (by omega) hd (fun q H1 hP1 hD1 hS1 => ?_)
  have hcel : cel G (adx ad a q) (clr mi a) (clrl ml a) (clrr mr a) a = .inr (k, (List.range N).map (fun j => if ft k j = 0 then Value.int 0 else if ft k j = 1 then .long 0 else .null)) := by
    rw [cel_obj hk h14, hN]
    congr 2
    refine List.map_congr_left (fun j _ => ?_)
    unfold sv; rw [hk, clr_at, clrl_at, clrr_at]; rfl
  have hR1 := hR.push ha hl hcel hP1 hD1
  have := kk ok (adx ad a q) H1 locs (cells + 1) (slots + N) ls hR1 hS1 (fun n hn => ⟨List.mem_append_left _ (hE n hn).1, by
    have hx : n ≠ a := fun e => ha (e ▸ (hE n hn).1)
    unfold adx; rw [if_neg hx]; exact (hE n hn).2⟩) (by omega) (by omega) (by unfold LH; rw [lvl_adx ha hl hol]; exact hlv) (hol.app _) ((hos.app _).c (fun n hn => by cases hn; exact Or.inl (List.mem_append_right _ (List.mem_singleton.mpr rfl))))
  rw [List.map_cons, rns_adx ha hl hos, show rn (adx ad a q) (.ref a) = .ref q by show Value.ref (adx ad a q a) = _; unfold adx; rw [if_pos rfl]] at this
  exact this
theorem j_newa {a k n : Nat} {x : Int32} {atype : ArrayType} {ty : FieldType} {a0 : (Nat → Int32) ⊕ (Nat → Int64) ⊕ (Nat → UInt32) ⊕ (Nat → UInt64) ⊕ (Nat → Option Nat)} (hk : kd a = k) (hka : 14 ≤ k ∧ k ≤ 16) (hln : ln a = n) (hx : x = nI n) (hty : newarray.typeOf atype = ty) (hgt : ∀ G : GG, (gty G)[k - 14]? = some (G.2.1 k, ty)) (hra : ∀ U cA, va_RA U cA ty → U.vm.findClass ("[" ++ ty.toString) = some cA) (ha0 : ∀ cA : ClassId, vp_cell cA (n, a0) = arrV cA n (fun _ => defaultValue ty)) (har : ∀ ad, ar ad (clr mi a) (clrl ml a) (clrr mr a) a = a0) (harr : Cond.arrayClass ty ∈ wtbl) (hb : n * componentBytes ty ≤ 536870912) (hn31 : n < 2 ^ 31) (hd : decode cc pc = .ok (.newarray atype, 2)) (ha : a ∉ dom) (hl : ¬ lit a) (hbc : 1 ≤ bc) (hbs : n ≤ bs)
    (kk : J cc nL own nm rt d G X post (bc - 1) (bs - n) (clr mi a) (clrl ml a) (clrr mr a) (dom ++ [a]) (pc + 2) lv (.ref a :: st)) : J cc nL own nm rt d G X post bc bs mi ml mr dom pc lv (.int x :: st) := by
  subst hx hty
  obtain ⟨p, l, e, R, s, m, args, below, meth, c, ad0, dom0⟩ := X
  intro ok ad H locs cells slots ls hR hS hE hc2 hs hlv hol hos
  have hkn : KN G s := ok.2.2.2.2.2.1
  refine va_newa (a0 := (n, a0)) ok.1 ok.2.1 (ok.2.2.2.2.1 _ harr) rfl hkn.1 hR.1 hR.2.1 hS (fun q hq => hq) ha0 (nI_pos hn31) (nI_clamp hn31) hb (by omega) (by omega) hd (fun q cA H1 hK1 hP1 hD1 hS1 => ?_)
  have hcA : G.2.1 k = cA := by
    have h1 := hra s _ (hkn.1.2 (k - 14) _ (hgt G)).2
    have h2 := hra s _ (hK1.2 (gty G).length (cA, newarray.typeOf atype) (by simp)).2
    rw [h1] at h2; exact Option.some.inj h2
  have hcel : cel G (adx ad a q) (clr mi a) (clrl ml a) (clrr mr a) a = .inl (cA, n, a0) := by
    unfold cel; rw [hk, if_neg (by omega), har, hln, hcA]
  have hR1 := hR.push ha hl hcel hP1 hD1
  have := kk ok (adx ad a q) H1 locs (cells + 1) (slots + n) ls hR1 hS1 (fun n hn => ⟨List.mem_append_left _ (hE n hn).1, by
    have hx : n ≠ a := fun e => ha (e ▸ (hE n hn).1)
    unfold adx; rw [if_neg hx]; exact (hE n hn).2⟩) (by omega) (by omega) (by unfold LH; rw [lvl_adx ha hl hol]; exact hlv) (hol.app _) ((hos.t.app _).c (fun n hn => by cases hn; exact Or.inl (List.mem_append_right _ (List.mem_singleton.mpr rfl))))
  rw [List.map_cons, rns_adx ha hl hos.t, show rn (adx ad a q) (.ref a) = .ref q by show Value.ref (adx ad a q a) = _; unfold adx; rw [if_pos rfl]] at this
  exact this
theorem j_newI {a n : Nat} {x : Int32} {atype : ArrayType} (hk : kd a = 15) (hln : ln a = n) (hx : x = nI n) (hty : newarray.typeOf atype = .int) (hb : n * 4 ≤ 536870912) (hd : decode cc pc = .ok (.newarray atype, 2)) (ha : a ∉ dom) (hl : ¬ lit a) (hbc : 1 ≤ bc) (hbs : n ≤ bs)
    (kk : J cc nL own nm rt d G X post (bc - 1) (bs - n) (clr mi a) (clrl ml a) (clrr mr a) (dom ++ [a]) (pc + 2) lv (.ref a :: st)) : J cc nL own nm rt d G X post bc bs mi ml mr dom pc lv (.int x :: st) :=
  j_newa (ty := .int) (a0 := .inl (fun _ => 0)) hk (by decide) hln hx hty (fun G => rfl) (fun U cA h => h) (fun cA => rfl) (fun ad => by unfold ar; rw [hk, if_pos (by decide)]; congr 1; funext i; exact clr_at _ _ _) wd168 hb (by omega) hd ha hl hbc hbs kk
theorem j_newB {a n : Nat} {x : Int32} {atype : ArrayType} (hk : kd a = 14) (hln : ln a = n) (hx : x = nI n) (hty : newarray.typeOf atype = .byte) (hb : n * 1 ≤ 536870912) (hd : decode cc pc = .ok (.newarray atype, 2)) (ha : a ∉ dom) (hl : ¬ lit a) (hbc : 1 ≤ bc) (hbs : n ≤ bs)
    (kk : J cc nL own nm rt d G X post (bc - 1) (bs - n) (clr mi a) (clrl ml a) (clrr mr a) (dom ++ [a]) (pc + 2) lv (.ref a :: st)) : J cc nL own nm rt d G X post bc bs mi ml mr dom pc lv (.int x :: st) :=
  j_newa (ty := .byte) (a0 := .inl (fun _ => 0)) hk (by decide) hln hx hty (fun G => rfl) (fun U cA h => h) (fun cA => rfl) (fun ad => by unfold ar; rw [hk, if_pos (by decide)]; congr 1; funext i; exact clr_at _ _ _) wd167 hb (by omega) hd ha hl hbc hbs kk
theorem j_newL {a n : Nat} {x : Int32} {atype : ArrayType} (hk : kd a = 16) (hln : ln a = n) (hx : x = nI n) (hty : newarray.typeOf atype = .long) (hb : n * 8 ≤ 536870912) (hd : decode cc pc = .ok (.newarray atype, 2)) (ha : a ∉ dom) (hl : ¬ lit a) (hbc : 1 ≤ bc) (hbs : n ≤ bs)
    (kk : J cc nL own nm rt d G X post (bc - 1) (bs - n) (clr mi a) (clrl ml a) (clrr mr a) (dom ++ [a]) (pc + 2) lv (.ref a :: st)) : J cc nL own nm rt d G X post bc bs mi ml mr dom pc lv (.int x :: st) :=
  j_newa (ty := .long) (a0 := .inr (.inl (fun _ => 0))) hk (by decide) hln hx hty (fun G => rfl) (fun U cA h => h) (fun cA => rfl) (fun ad => by unfold ar; rw [hk, if_neg (by decide), if_pos rfl]; congr 2; funext i; exact clrl_at _ _ _) wd482 hb (by omega) hd ha hl hbc hbs kk
theorem j_newq {a k n index : Nat} {x : Int32} {C : String} (hk : kd a = k) (hka : 17 ≤ k) (hln : ln a = n) (hx : x = nI n) (hgt : ∀ G : GG, (gty G)[k - 14]? = some (G.2.1 k, .object C)) (hcl : Cond.classLink own index C ∈ wtbl) (hAO : ∀ U, G.2.2.2.2 U → va_AO C U) (hb : n * 4 ≤ 536870912) (hd : decode cc pc = .ok (.anewarray index, 3)) (ha : a ∉ dom) (hl : ¬ lit a) (hbc : 1 ≤ bc) (hbs : n ≤ bs)
    (kk : J cc nL own nm rt d G X post (bc - 1) (bs - n) (clr mi a) (clrl ml a) (clrr mr a) (dom ++ [a]) (pc + 3) lv (.ref a :: st)) : J cc nL own nm rt d G X post bc bs mi ml mr dom pc lv (.int x :: st) := by
  subst hx
  obtain ⟨p, l, e, R, s, m, args, below, meth, c, ad0, dom0⟩ := X
  intro ok ad H locs cells slots ls hR hS hE hc2 hs hlv hol hos
  have hkn : KN G s := ok.2.2.2.2.2.1
  refine va_newq ok.1 ok.2.1 ok.2.2.2.1 (ok.2.2.2.2.1 _ hcl) (hAO s hkn.2.1) hkn.1 hR.1 hR.2.1 hS (fun q hq => hq) (nI_pos (by omega)) (nI_clamp (by omega)) hb (by omega) (by omega) hd (fun q cA H1 hK1 hP1 hD1 hS1 => ?_)
  have hcA : G.2.1 k = cA := by
    obtain ⟨_, _, _, _, _, h1⟩ := (hkn.1.2 (k - 14) _ (hgt G)).2
    obtain ⟨_, _, _, _, _, h2⟩ := (hK1.2 (gty G).length (cA, .object C) (by simp)).2
    rw [h1] at h2; exact Option.some.inj h2
  have hcel : cel G (adx ad a q) (clr mi a) (clrl ml a) (clrr mr a) a = .inl (cA, n, .inr (.inr (.inr (.inr (fun _ => none))))) := by
    rw [cel_ref hk hka, hln, hcA]
    congr 7
    funext j; rw [clrr_at]; rfl
  have hR1 := hR.push ha hl hcel hP1 hD1
  have := kk ok (adx ad a q) H1 locs (cells + 1) (slots + n) ls hR1 hS1 (fun n hn => ⟨List.mem_append_left _ (hE n hn).1, by
    have hx : n ≠ a := fun e => ha (e ▸ (hE n hn).1)
    unfold adx; rw [if_neg hx]; exact (hE n hn).2⟩) (by omega) (by omega) (by unfold LH; rw [lvl_adx ha hl hol]; exact hlv) (hol.app _) ((hos.t.app _).c (fun n hn => by cases hn; exact Or.inl (List.mem_append_right _ (List.mem_singleton.mpr rfl))))
  rw [List.map_cons, rns_adx ha hl hos.t, show rn (adx ad a q) (.ref a) = .ref q by show Value.ref (adx ad a q a) = _; unfold adx; rw [if_pos rfl]] at this
  exact this
theorem j_aast {a b k kb N : Nat} {i : Int32} {C : String} {T : u_T} (hk : kd a = k) (hka : 17 ≤ k) (h99 : k ≠ 99) (hgt : ∀ G : GG, (gty G)[k - 14]? = some (G.2.1 k, .object C)) (hkb : kd b = kb) (hb14 : kb < 14) (hc : vwCl[kb]? = some (C, T, N)) (hi : vp_in i (ln a)) (hd : decode cc pc = .ok (.aastore, 1))
    (kk : J cc nL own nm rt d G X post bc bs mi ml (upr mr a i.toNatClampNeg (some b)) dom (pc + 1) lv st) : J cc nL own nm rt d G X post bc bs mi ml mr dom pc lv (.ref b :: .int i :: .ref a :: st) := by
  obtain ⟨p, l, e, R, s, m, args, below, meth, c, ad0, dom0⟩ := X
  intro ok ad H locs cells slots ls hR hS hE hc2 hs hlv hol hos
  have hkn : KN G s := ok.2.2.2.2.2.1
  have ha : a ∈ dom := in_dom hos.t.t (by omega)
  have hb : b ∈ dom := in_dom hos (by omega)
  obtain ⟨q, hq, hw⟩ := wl_get (G := G) (ad := ad) (mi := mi) (ml := ml) (mr := mr) ha
  obtain ⟨q2, hq2, hw2⟩ := wl_get (G := G) (ad := ad) (mi := mi) (ml := ml) (mr := mr) hb
  rw [cel_ref hk hka] at hw
  rw [cel_obj hkb hb14] at hw2
  refine va_astq ok.1 ok.2.1 hkn.1 hR.1 hR.2.1 hS q (k - 14) q2 kb hw (hgt G) hw2 hc hi hd (fun H1 locs1 hP1 hD1 hS1 => ?_)
  have hset : (wl G ad mi ml mr dom).set q (ad a, .inl (G.2.1 k, ln a, .inr (.inr (.inr (.inr (va_up (fun j => (mr a j).map ad) i.toNatClampNeg (some (ad b)))))))) = wl G ad mi ml (upr mr a i.toNatClampNeg (some b)) dom := by
    refine wl_set hR.2.1 hq ?_ (fun n hna => cel_congr rfl rfl (upr_off _ _ hna))
    rw [cel_ref hk hka]
    congr 7
    funext j
    unfold va_up upr
    rw [if_pos rfl]
    split <;> rfl
  rw [hset] at hP1 hD1
  refine kk ok ad H1 locs1 cells slots ls ⟨hP1, hD1, fun n hn2 j b2 hb2 => ?_, hR.2.2.2⟩ hS1 hE hc2 hs hlv hol hos.t.t.t
  by_cases hna : n = a
  · subst hna
    by_cases hj : j = i.toNatClampNeg
    · subst hj; rw [upr_at] at hb2; cases hb2; exact Or.inl hb
    · rw [upr_ne _ _ hj] at hb2; exact hR.2.2.1 n hn2 j b2 hb2
  · rw [upr_off _ _ hna] at hb2; exact hR.2.2.1 n hn2 j b2 hb2
end RN
section RN2
variable {cc : ByteArray} {nL : Nat} {nm : String} {rt : Option FieldType} {d : Nat} {G : GG} {X : Cx} {post : PT} {bc bs : Nat} {mi : MI} {ml : ML} {mr : MR} {dom : List Nat} {pc : Nat} {lv : List (Option Value)} {st : List Value}
theorem nL_8 {a : Nat} (hk : kd a = 11) (hd : decode cc pc = .ok (.new 8, 3)) (ha : a ∉ dom) (hl : ¬ lit a) (hbc : 1 ≤ bc) (hbs : 12 ≤ bs) (kk : J cc nL RL nm rt d G X post (bc - 1) (bs - 12) (clr mi a) (clrl ml a) (clrr mr a) (dom ++ [a]) (pc + 3) lv (.ref a :: st)) : J cc nL RL nm rt d G X post bc bs mi ml mr dom pc lv st := j_new hk (by decide) rfl rfl iX11 tyX11_ok wd132 wd133 wd106 (fun j hj => by
  match j, hj with
  | 0, _ => rfl
  | 1, _ => rfl
  | 2, _ => rfl
  | 3, _ => rfl
  | 4, _ => rfl
  | 5, _ => rfl
  | 6, _ => rfl
  | 7, _ => rfl
  | 8, _ => rfl
  | 9, _ => rfl
  | 10, _ => rfl
  | 11, _ => rfl
  | j + 12, hj => exact absurd hj (by omega)) hd ha hl hbc hbs kk
theorem n11_17 {a : Nat} (hk : kd a = 9) (hd : decode cc pc = .ok (.new 17, 3)) (ha : a ∉ dom) (hl : ¬ lit a) (hbc : 1 ≤ bc) (hbs : 16 ≤ bs) (kk : J cc nL RX11 nm rt d G X post (bc - 1) (bs - 16) (clr mi a) (clrl ml a) (clrr mr a) (dom ++ [a]) (pc + 3) lv (.ref a :: st)) : J cc nL RX11 nm rt d G X post bc bs mi ml mr dom pc lv st := j_new hk (by decide) rfl rfl iX9 tyX9_ok wd140 wd141 wd107 (fun j hj => by
  match j, hj with
  | 0, _ => rfl
  | 1, _ => rfl
  | 2, _ => rfl
  | 3, _ => rfl
  | 4, _ => rfl
  | 5, _ => rfl
  | 6, _ => rfl
  | 7, _ => rfl
  | 8, _ => rfl
  | 9, _ => rfl
  | 10, _ => rfl
  | 11, _ => rfl
  | 12, _ => rfl
  | 13, _ => rfl
  | 14, _ => rfl
  | 15, _ => rfl
  | j + 16, hj => exact absurd hj (by omega)) hd ha hl hbc hbs kk
theorem n9_44 {a : Nat} (hk : kd a = 2) (hd : decode cc pc = .ok (.new 44, 3)) (ha : a ∉ dom) (hl : ¬ lit a) (hbc : 1 ≤ bc) (hbs : 4 ≤ bs) (kk : J cc nL RX9 nm rt d G X post (bc - 1) (bs - 4) (clr mi a) (clrl ml a) (clrr mr a) (dom ++ [a]) (pc + 3) lv (.ref a :: st)) : J cc nL RX9 nm rt d G X post bc bs mi ml mr dom pc lv st := j_new hk (by decide) rfl rfl iX2 tyX2_ok wd146 wd147 wd108 (fun j hj => by
  match j, hj with
  | 0, _ => rfl
  | 1, _ => rfl
  | 2, _ => rfl
  | 3, _ => rfl
  | j + 4, hj => exact absurd hj (by omega)) hd ha hl hbc hbs kk
theorem n9_51 {a : Nat} (hk : kd a = 3) (hd : decode cc pc = .ok (.new 51, 3)) (ha : a ∉ dom) (hl : ¬ lit a) (hbc : 1 ≤ bc) (hbs : 4 ≤ bs) (kk : J cc nL RX9 nm rt d G X post (bc - 1) (bs - 4) (clr mi a) (clrl ml a) (clrr mr a) (dom ++ [a]) (pc + 3) lv (.ref a :: st)) : J cc nL RX9 nm rt d G X post bc bs mi ml mr dom pc lv st := j_new hk (by decide) rfl rfl iX3 tyX3_ok wd169 wd177 wd109 (fun j hj => by
  match j, hj with
  | 0, _ => rfl
  | 1, _ => rfl
  | 2, _ => rfl
  | 3, _ => rfl
  | j + 4, hj => exact absurd hj (by omega)) hd ha hl hbc hbs kk
theorem nq9_51 {a n : Nat} {x : Int32} (hGA : GA G) (hk : kd a = 18) (hln : ln a = n) (hx : x = nI n) (hb : n * 4 ≤ 536870912) (hd : decode cc pc = .ok (.anewarray 51, 3)) (ha : a ∉ dom) (hl : ¬ lit a) (hbc : 1 ≤ bc) (hbs : n ≤ bs) (kk : J cc nL RX9 nm rt d G X post (bc - 1) (bs - n) (clr mi a) (clrl ml a) (clrr mr a) (dom ++ [a]) (pc + 3) lv (.ref a :: st)) : J cc nL RX9 nm rt d G X post bc bs mi ml mr dom pc lv (.int x :: st) := j_newq hk (by decide) hln hx (fun _ => rfl) wd169 (fun U hU => (hGA U hU).2.1) hb hd ha hl hbc hbs kk
theorem n9_57 {a : Nat} (hk : kd a = 1) (hd : decode cc pc = .ok (.new 57, 3)) (ha : a ∉ dom) (hl : ¬ lit a) (hbc : 1 ≤ bc) (hbs : 3 ≤ bs) (kk : J cc nL RX9 nm rt d G X post (bc - 1) (bs - 3) (clr mi a) (clrl ml a) (clrr mr a) (dom ++ [a]) (pc + 3) lv (.ref a :: st)) : J cc nL RX9 nm rt d G X post bc bs mi ml mr dom pc lv st := j_new hk (by decide) rfl rfl iX1 tyX1_ok wd171 wd208 wd110 (fun j hj => by
  match j, hj with
  | 0, _ => rfl
  | 1, _ => rfl
  | 2, _ => rfl
  | j + 3, hj => exact absurd hj (by omega)) hd ha hl hbc hbs kk
theorem nq9_57 {a n : Nat} {x : Int32} (hGA : GA G) (hk : kd a = 17) (hln : ln a = n) (hx : x = nI n) (hb : n * 4 ≤ 536870912) (hd : decode cc pc = .ok (.anewarray 57, 3)) (ha : a ∉ dom) (hl : ¬ lit a) (hbc : 1 ≤ bc) (hbs : n ≤ bs) (kk : J cc nL RX9 nm rt d G X post (bc - 1) (bs - n) (clr mi a) (clrl ml a) (clrr mr a) (dom ++ [a]) (pc + 3) lv (.ref a :: st)) : J cc nL RX9 nm rt d G X post bc bs mi ml mr dom pc lv (.int x :: st) := j_newq hk (by decide) hln hx (fun _ => rfl) wd171 (fun U hU => (hGA U hU).1) hb hd ha hl hbc hbs kk
theorem n9_63 {a : Nat} (hk : kd a = 10) (hd : decode cc pc = .ok (.new 63, 3)) (ha : a ∉ dom) (hl : ¬ lit a) (hbc : 1 ≤ bc) (hbs : 3 ≤ bs) (kk : J cc nL RX9 nm rt d G X post (bc - 1) (bs - 3) (clr mi a) (clrl ml a) (clrr mr a) (dom ++ [a]) (pc + 3) lv (.ref a :: st)) : J cc nL RX9 nm rt d G X post bc bs mi ml mr dom pc lv st := j_new hk (by decide) rfl rfl iX10 tyX10_ok wd173 wd234 wd111 (fun j hj => by
  match j, hj with
  | 0, _ => rfl
  | 1, _ => rfl
  | 2, _ => rfl
  | j + 3, hj => exact absurd hj (by omega)) hd ha hl hbc hbs kk
theorem nq9_63 {a n : Nat} {x : Int32} (hGA : GA G) (hk : kd a = 20) (hln : ln a = n) (hx : x = nI n) (hb : n * 4 ≤ 536870912) (hd : decode cc pc = .ok (.anewarray 63, 3)) (ha : a ∉ dom) (hl : ¬ lit a) (hbc : 1 ≤ bc) (hbs : n ≤ bs) (kk : J cc nL RX9 nm rt d G X post (bc - 1) (bs - n) (clr mi a) (clrl ml a) (clrr mr a) (dom ++ [a]) (pc + 3) lv (.ref a :: st)) : J cc nL RX9 nm rt d G X post bc bs mi ml mr dom pc lv (.int x :: st) := j_newq hk (by decide) hln hx (fun _ => rfl) wd173 (fun U hU => (hGA U hU).2.2.2) hb hd ha hl hbc hbs kk
theorem n9_69 {a : Nat} (hk : kd a = 5) (hd : decode cc pc = .ok (.new 69, 3)) (ha : a ∉ dom) (hl : ¬ lit a) (hbc : 1 ≤ bc) (hbs : 3 ≤ bs) (kk : J cc nL RX9 nm rt d G X post (bc - 1) (bs - 3) (clr mi a) (clrl ml a) (clrr mr a) (dom ++ [a]) (pc + 3) lv (.ref a :: st)) : J cc nL RX9 nm rt d G X post bc bs mi ml mr dom pc lv st := j_new hk (by decide) rfl rfl iX5 tyX5_ok wd175 wd258 wd112 (fun j hj => by
  match j, hj with
  | 0, _ => rfl
  | 1, _ => rfl
  | 2, _ => rfl
  | j + 3, hj => exact absurd hj (by omega)) hd ha hl hbc hbs kk
theorem nq9_69 {a n : Nat} {x : Int32} (hGA : GA G) (hk : kd a = 19) (hln : ln a = n) (hx : x = nI n) (hb : n * 4 ≤ 536870912) (hd : decode cc pc = .ok (.anewarray 69, 3)) (ha : a ∉ dom) (hl : ¬ lit a) (hbc : 1 ≤ bc) (hbs : n ≤ bs) (kk : J cc nL RX9 nm rt d G X post (bc - 1) (bs - n) (clr mi a) (clrl ml a) (clrr mr a) (dom ++ [a]) (pc + 3) lv (.ref a :: st)) : J cc nL RX9 nm rt d G X post bc bs mi ml mr dom pc lv (.int x :: st) := j_newq hk (by decide) hln hx (fun _ => rfl) wd175 (fun U hU => (hGA U hU).2.2.1) hb hd ha hl hbc hbs kk
theorem n11_27 {a : Nat} (hk : kd a = 6) (hd : decode cc pc = .ok (.new 27, 3)) (ha : a ∉ dom) (hl : ¬ lit a) (hbc : 1 ≤ bc) (hbs : 14 ≤ bs) (kk : J cc nL RX11 nm rt d G X post (bc - 1) (bs - 14) (clr mi a) (clrl ml a) (clrr mr a) (dom ++ [a]) (pc + 3) lv (.ref a :: st)) : J cc nL RX11 nm rt d G X post bc bs mi ml mr dom pc lv st := j_new hk (by decide) rfl rfl iX6 tyX6_ok wd372 wd373 wd113 (fun j hj => by
  match j, hj with
  | 0, _ => rfl
  | 1, _ => rfl
  | 2, _ => rfl
  | 3, _ => rfl
  | 4, _ => rfl
  | 5, _ => rfl
  | 6, _ => rfl
  | 7, _ => rfl
  | 8, _ => rfl
  | 9, _ => rfl
  | 10, _ => rfl
  | 11, _ => rfl
  | 12, _ => rfl
  | 13, _ => rfl
  | j + 14, hj => exact absurd hj (by omega)) hd ha hl hbc hbs kk
theorem n11_34 {a : Nat} (hk : kd a = 4) (hd : decode cc pc = .ok (.new 34, 3)) (ha : a ∉ dom) (hl : ¬ lit a) (hbc : 1 ≤ bc) (hbs : 6 ≤ bs) (kk : J cc nL RX11 nm rt d G X post (bc - 1) (bs - 6) (clr mi a) (clrl ml a) (clrr mr a) (dom ++ [a]) (pc + 3) lv (.ref a :: st)) : J cc nL RX11 nm rt d G X post bc bs mi ml mr dom pc lv st := j_new hk (by decide) rfl rfl iX4 tyX4_ok wd483 wd484 wd118 (fun j hj => by
  match j, hj with
  | 0, _ => rfl
  | 1, _ => rfl
  | 2, _ => rfl
  | 3, _ => rfl
  | 4, _ => rfl
  | 5, _ => rfl
  | j + 6, hj => exact absurd hj (by omega)) hd ha hl hbc hbs kk
theorem n11_41 {a : Nat} (hk : kd a = 0) (hd : decode cc pc = .ok (.new 41, 3)) (ha : a ∉ dom) (hl : ¬ lit a) (hbc : 1 ≤ bc) (hbs : 6 ≤ bs) (kk : J cc nL RX11 nm rt d G X post (bc - 1) (bs - 6) (clr mi a) (clrl ml a) (clrr mr a) (dom ++ [a]) (pc + 3) lv (.ref a :: st)) : J cc nL RX11 nm rt d G X post bc bs mi ml mr dom pc lv st := j_new hk (by decide) rfl rfl iX0 tyX0_ok wd510 wd511 wd119 (fun j hj => by
  match j, hj with
  | 0, _ => rfl
  | 1, _ => rfl
  | 2, _ => rfl
  | 3, _ => rfl
  | 4, _ => rfl
  | 5, _ => rfl
  | j + 6, hj => exact absurd hj (by omega)) hd ha hl hbc hbs kk
theorem n11_48 {a : Nat} (hk : kd a = 7) (hd : decode cc pc = .ok (.new 48, 3)) (ha : a ∉ dom) (hl : ¬ lit a) (hbc : 1 ≤ bc) (hbs : 3 ≤ bs) (kk : J cc nL RX11 nm rt d G X post (bc - 1) (bs - 3) (clr mi a) (clrl ml a) (clrr mr a) (dom ++ [a]) (pc + 3) lv (.ref a :: st)) : J cc nL RX11 nm rt d G X post bc bs mi ml mr dom pc lv st := j_new hk (by decide) rfl rfl iX7 tyX7_ok wd536 wd537 wd120 (fun j hj => by
  match j, hj with
  | 0, _ => rfl
  | 1, _ => rfl
  | 2, _ => rfl
  | j + 3, hj => exact absurd hj (by omega)) hd ha hl hbc hbs kk
theorem n11_55 {a : Nat} (hk : kd a = 8) (hd : decode cc pc = .ok (.new 55, 3)) (ha : a ∉ dom) (hl : ¬ lit a) (hbc : 1 ≤ bc) (hbs : 2 ≤ bs) (kk : J cc nL RX11 nm rt d G X post (bc - 1) (bs - 2) (clr mi a) (clrl ml a) (clrr mr a) (dom ++ [a]) (pc + 3) lv (.ref a :: st)) : J cc nL RX11 nm rt d G X post bc bs mi ml mr dom pc lv st := j_new hk (by decide) rfl rfl iX8 tyX8_ok wd552 wd553 wd121 (fun j hj => by
  match j, hj with
  | 0, _ => rfl
  | 1, _ => rfl
  | j + 2, hj => exact absurd hj (by omega)) hd ha hl hbc hbs kk
theorem nL_16 {a : Nat} (hk : kd a = 13) (hd : decode cc pc = .ok (.new 16, 3)) (ha : a ∉ dom) (hl : ¬ lit a) (hbc : 1 ≤ bc) (hbs : 32 ≤ bs) (kk : J cc nL RL nm rt d G X post (bc - 1) (bs - 32) (clr mi a) (clrl ml a) (clrr mr a) (dom ++ [a]) (pc + 3) lv (.ref a :: st)) : J cc nL RL nm rt d G X post bc bs mi ml mr dom pc lv st := j_new hk (by decide) rfl rfl iX13 tyX13_ok wd1352 wd1353 wd122 (fun j hj => by
  match j, hj with
  | 0, _ => rfl
  | 1, _ => rfl
  | 2, _ => rfl
  | 3, _ => rfl
  | 4, _ => rfl
  | 5, _ => rfl
  | 6, _ => rfl
  | 7, _ => rfl
  | 8, _ => rfl
  | 9, _ => rfl
  | 10, _ => rfl
  | 11, _ => rfl
  | 12, _ => rfl
  | 13, _ => rfl
  | 14, _ => rfl
  | 15, _ => rfl
  | 16, _ => rfl
  | 17, _ => rfl
  | 18, _ => rfl
  | 19, _ => rfl
  | 20, _ => rfl
  | 21, _ => rfl
  | 22, _ => rfl
  | 23, _ => rfl
  | 24, _ => rfl
  | 25, _ => rfl
  | 26, _ => rfl
  | 27, _ => rfl
  | 28, _ => rfl
  | 29, _ => rfl
  | 30, _ => rfl
  | 31, _ => rfl
  | j + 32, hj => exact absurd hj (by omega)) hd ha hl hbc hbs kk
theorem n13_162 {a : Nat} (hk : kd a = 12) (hd : decode cc pc = .ok (.new 162, 3)) (ha : a ∉ dom) (hl : ¬ lit a) (hbc : 1 ≤ bc) (hbs : 29 ≤ bs) (kk : J cc nL RX13 nm rt d G X post (bc - 1) (bs - 29) (clr mi a) (clrl ml a) (clrr mr a) (dom ++ [a]) (pc + 3) lv (.ref a :: st)) : J cc nL RX13 nm rt d G X post bc bs mi ml mr dom pc lv st := j_new hk (by decide) rfl rfl iX12 tyX12_ok wd1471 wd1472 wd125 (fun j hj => by
  match j, hj with
  | 0, _ => rfl
  | 1, _ => rfl
  | 2, _ => rfl
  | 3, _ => rfl
  | 4, _ => rfl
  | 5, _ => rfl
  | 6, _ => rfl
  | 7, _ => rfl
  | 8, _ => rfl
  | 9, _ => rfl
  | 10, _ => rfl
  | 11, _ => rfl
  | 12, _ => rfl
  | 13, _ => rfl
  | 14, _ => rfl
  | 15, _ => rfl
  | 16, _ => rfl
  | 17, _ => rfl
  | 18, _ => rfl
  | 19, _ => rfl
  | 20, _ => rfl
  | 21, _ => rfl
  | 22, _ => rfl
  | 23, _ => rfl
  | 24, _ => rfl
  | 25, _ => rfl
  | 26, _ => rfl
  | 27, _ => rfl
  | 28, _ => rfl
  | j + 29, hj => exact absurd hj (by omega)) hd ha hl hbc hbs kk
end RN2
