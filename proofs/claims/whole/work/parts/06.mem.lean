/-! ROWS of the memory: fields, arrays, new cells -/
def up (mi : MI) (a j : Nat) (x : Int32) : MI := fun n i => if n = a then (if i = j then x else mi n i) else mi n i
def upl (ml : ML) (a j : Nat) (x : Int64) : ML := fun n i => if n = a then (if i = j then x else ml n i) else ml n i
def upr (mr : MR) (a j : Nat) (x : Option Nat) : MR := fun n i => if n = a then (if i = j then x else mr n i) else mr n i
theorem up_at (mi : MI) (a j : Nat) (x : Int32) : up mi a j x a j = x := by simp [up]
theorem up_row (mi : MI) (a j : Nat) (x : Int32) : up mi a j x a = upd (mi a) j x := by funext i; simp [up, upd]
theorem up_off (mi : MI) {a j n : Nat} (x : Int32) (h : n ≠ a) : up mi a j x n = mi n := by funext i; simp [up, h]
theorem up_ne (mi : MI) {a j i : Nat} (x : Int32) (h : i ≠ j) : up mi a j x a i = mi a i := by simp [up, h]
theorem upl_at (ml : ML) (a j : Nat) (x : Int64) : upl ml a j x a j = x := by simp [upl]
theorem upl_row (ml : ML) (a j : Nat) (x : Int64) : upl ml a j x a = vp_updL (ml a) j x := by funext i; simp [upl, vp_updL]
theorem upl_off (ml : ML) {a j n : Nat} (x : Int64) (h : n ≠ a) : upl ml a j x n = ml n := by funext i; simp [upl, h]
theorem upl_ne (ml : ML) {a j i : Nat} (x : Int64) (h : i ≠ j) : upl ml a j x a i = ml a i := by simp [upl, h]
theorem upr_at (mr : MR) (a j : Nat) (x : Option Nat) : upr mr a j x a j = x := by simp [upr]
theorem upr_off (mr : MR) {a j n : Nat} (x : Option Nat) (h : n ≠ a) : upr mr a j x n = mr n := by funext i; simp [upr, h]
theorem upr_ne (mr : MR) {a j i : Nat} (x : Option Nat) (h : i ≠ j) : upr mr a j x a i = mr a i := by simp [upr, h]
theorem cel_congr {G : GG} {ad : Nat → Nat} {mi mi2 : MI} {ml ml2 : ML} {mr mr2 : MR} {n : Nat} (h1 : mi2 n = mi n) (h2 : ml2 n = ml n) (h3 : mr2 n = mr n) : cel G ad mi2 ml2 mr2 n = cel G ad mi ml mr n := by
  simp only [cel, sv, ar, h1, h2, h3]
theorem cel_obj {G : GG} {ad : Nat → Nat} {mi : MI} {ml : ML} {mr : MR} {n k : Nat} (hk : kd n = k) (h : k < 14) : cel G ad mi ml mr n = .inr (k, (List.range (nf k)).map (fun j => sv ad mi ml mr n j)) := by
  unfold cel; rw [hk, if_pos h]
theorem cel_int {G : GG} {ad : Nat → Nat} {mi : MI} {ml : ML} {mr : MR} {n k : Nat} (hk : kd n = k) (h : 14 ≤ k) (h2 : k < 16) : cel G ad mi ml mr n = .inl (G.2.1 k, ln n, .inl (mi n)) := by
  unfold cel ar; rw [hk, if_neg (by omega), if_pos h2]
theorem cel_long {G : GG} {ad : Nat → Nat} {mi : MI} {ml : ML} {mr : MR} {n : Nat} (hk : kd n = 16) : cel G ad mi ml mr n = .inl (G.2.1 16, ln n, .inr (.inl (ml n))) := by
  unfold cel ar; rw [hk]; rfl
theorem cel_ref {G : GG} {ad : Nat → Nat} {mi : MI} {ml : ML} {mr : MR} {n k : Nat} (hk : kd n = k) (h : 17 ≤ k) : cel G ad mi ml mr n = .inl (G.2.1 k, ln n, .inr (.inr (.inr (.inr (fun j => (mr n j).map ad))))) := by
  unfold cel ar; rw [hk, if_neg (by omega), if_neg (by omega), if_neg (by omega)]
theorem wl_get {G : GG} {ad : Nat → Nat} {mi : MI} {ml : ML} {mr : MR} {dom : List Nat} {a : Nat} (h : a ∈ dom) : ∃ q : Nat, dom[q]? = some a ∧ (wl G ad mi ml mr dom)[q]? = some (ad a, cel G ad mi ml mr a) := by
  obtain ⟨q, hq⟩ := List.getElem?_of_mem h
  exact ⟨q, hq, by unfold wl; rw [List.getElem?_map, hq]; rfl⟩
theorem wl_set {G : GG} {ad : Nat → Nat} {mi mi2 : MI} {ml ml2 : ML} {mr mr2 : MR} {dom : List Nat} {a q : Nat} {A : Nat → Prop} {e : va_E} (hD : va_D A (wl G ad mi ml mr dom)) (hq : dom[q]? = some a) (he : cel G ad mi2 ml2 mr2 a = e) (hne : ∀ n, n ≠ a → cel G ad mi2 ml2 mr2 n = cel G ad mi ml mr n) : (wl G ad mi ml mr dom).set q (ad a, e) = wl G ad mi2 ml2 mr2 dom := by
  subst he
  refine List.ext_getElem? (fun i => ?_)
  have hql : q < dom.length := (List.getElem?_eq_some_iff.mp hq).1
  by_cases hi : i = q
  · subst hi
    rw [List.getElem?_set_self (by simpa [wl] using hql)]
    unfold wl; rw [List.getElem?_map, hq]; rfl
  · rw [List.getElem?_set_ne (fun e => hi e.symm)]
    unfold wl; rw [List.getElem?_map, List.getElem?_map]
    cases hn : dom[i]? with
    | none => rfl
    | some n =>
      by_cases hna : n = a
      · subst hna
        have h1 : (wl G ad mi ml mr dom)[i]? = some (ad n, cel G ad mi ml mr n) := by unfold wl; rw [List.getElem?_map, hn]; rfl
        have h2 : (wl G ad mi ml mr dom)[q]? = some (ad n, cel G ad mi ml mr n) := by unfold wl; rw [List.getElem?_map, hq]; rfl
        exact absurd (hD.1 i q _ _ h1 h2 rfl) hi
      · simp only [Option.map_some]; rw [hne n hna]
theorem range_set {N k : Nat} {f g : Nat → Value} {v : Value} (hk : g k = v) (hne : ∀ j, j ≠ k → g j = f j) : ((List.range N).map f).set k v = (List.range N).map g := by
  refine List.ext_getElem? (fun i => ?_)
  by_cases hi : i = k
  · subst hi
    by_cases hl : i < N
    · rw [List.getElem?_set_self (by simpa using hl)]; simp [hl, hk]
    · rw [List.getElem?_eq_none (by simp; omega), List.getElem?_eq_none (by simp; omega)]
  · rw [List.getElem?_set_ne (fun e => hi e.symm)]
    simp only [List.getElem?_map]
    by_cases hl : i < N
    · simp [hl, hne i hi]
    · rw [List.getElem?_eq_none (by simpa using hl)]; rfl
theorem in_dom {dom : List Nat} {a : Nat} {st : List Value} (h : oks dom (.ref a :: st)) (hk : kd a ≠ 99) : a ∈ dom := by
  rcases h.h a rfl with h | h
  · exact h
  · exact absurd (kd_lit h) hk
section R2
variable {cc : ByteArray} {nL : Nat} {own nm : String} {rt : Option FieldType} {d : Nat} {G : GG} {X : Cx} {post : PT} {bc bs : Nat} {mi : MI} {ml : ML} {mr : MR} {dom : List Nat} {pc : Nat} {lv : List (Option Value)} {st : List Value}
/-- a field is read: the link either of the own class or of a nest mate -/
def linked (own : String) (index : Nat) (T : u_T) (j : Nat) : Prop := Cond.fieldLink own index (T j).1 (T j).2.1 (T j).2.2.1 ∈ wtbl ∨ ∃ host, Cond.fieldLinkNest own index (T j).1 (T j).2.1 (T j).2.2.1 host ∈ nestW
theorem j_get {k N a j index : Nat} {C : String} {T : u_T} {v : Value} (hk : kd a = k) (h14 : k < 14) (hc : vwCl[k]? = some (C, T, N)) (hN : nf k = N) (hj : j < N) (hin : ∀ w ∈ u_ws C T N, w ∈ wtbl) (hlink : linked own index T j) (hd : decode cc pc = .ok (.getfield index, 3))
    (hv : ∀ ad, sv ad mi ml mr a j = rn ad v) (hvo : (∀ b, mr a j = some b → okn dom b) → okv dom v) (kk : J cc nL own nm rt d G X post bc bs mi ml mr dom (pc + 3) lv (v :: st)) : J cc nL own nm rt d G X post bc bs mi ml mr dom pc lv (.ref a :: st) := by
  obtain ⟨p, l, e, R, s, m, args, below, meth, c, ad0, dom0⟩ := X
  intro ok ad H locs cells slots ls hR hS hE hc2 hs hl hol hos
  have ha : a ∈ dom := in_dom hos (by omega)
  obtain ⟨q, hq, hw⟩ := wl_get (G := G) (ad := ad) (mi := mi) (ml := ml) (mr := mr) ha
  rw [cel_obj hk h14, hN] at hw
  have hkn : KN G s := ok.2.2.2.2.2.1
  have hfs : ((List.range N).map (fun j => sv ad mi ml mr a j))[j]? = some (rn ad v) := by simp [hj, hv]
  have kk := kk ok ad H locs cells slots ls hR hS hE hc2 hs hl hol (hos.t.c (hvo (hR.2.2.1 a ha j)))
  rcases hlink with hlink | ⟨host, hlink⟩
  · exact va_get ok.1 ok.2.1 ok.2.2.2.2.1 hin ok.2.2.2.1 hkn.1 hR.1 q hw hc j hj (ok.2.2.2.2.1 _ hlink) (fun _ h => h) hfs hd kk
  · exact va_getN ok.1 ok.2.1 ok.2.2.2.2.1 hin ok.2.2.2.1 hkn.1 hR.1 q hw hc j hj (va_Nw.use rfl ((hkn.2.2.2 s hkn.2.1).1 _ hlink)) (fun _ h => h) hfs hd kk
theorem j_getI {k N a j index : Nat} {C : String} {T : u_T} (hk : kd a = k) (h14 : k < 14) (hc : vwCl[k]? = some (C, T, N)) (hN : nf k = N) (hj : j < N) (hin : ∀ w ∈ u_ws C T N, w ∈ wtbl) (hlink : linked own index T j) (hd : decode cc pc = .ok (.getfield index, 3)) (hf : ft k j = 0)
    (kk : J cc nL own nm rt d G X post bc bs mi ml mr dom (pc + 3) lv (.int (mi a j) :: st)) : J cc nL own nm rt d G X post bc bs mi ml mr dom pc lv (.ref a :: st) :=
  j_get hk h14 hc hN hj hin hlink hd (fun ad => by unfold sv; rw [hk, hf]; rfl) (fun _ => okv_int _ _) kk
theorem j_getL {k N a j index : Nat} {C : String} {T : u_T} (hk : kd a = k) (h14 : k < 14) (hc : vwCl[k]? = some (C, T, N)) (hN : nf k = N) (hj : j < N) (hin : ∀ w ∈ u_ws C T N, w ∈ wtbl) (hlink : linked own index T j) (hd : decode cc pc = .ok (.getfield index, 3)) (hf : ft k j = 1)
    (kk : J cc nL own nm rt d G X post bc bs mi ml mr dom (pc + 3) lv (.long (ml a j) :: st)) : J cc nL own nm rt d G X post bc bs mi ml mr dom pc lv (.ref a :: st) :=
  j_get hk h14 hc hN hj hin hlink hd (fun ad => by unfold sv; rw [hk, hf]; rfl) (fun _ => okv_long _ _) kk
theorem j_getR {k N a j b index : Nat} {C : String} {T : u_T} (hk : kd a = k) (h14 : k < 14) (hc : vwCl[k]? = some (C, T, N)) (hN : nf k = N) (hj : j < N) (hin : ∀ w ∈ u_ws C T N, w ∈ wtbl) (hlink : linked own index T j) (hd : decode cc pc = .ok (.getfield index, 3)) (hf : ft k j = 2) (hb : mr a j = some b)
    (kk : J cc nL own nm rt d G X post bc bs mi ml mr dom (pc + 3) lv (.ref b :: st)) : J cc nL own nm rt d G X post bc bs mi ml mr dom pc lv (.ref a :: st) :=
  j_get hk h14 hc hN hj hin hlink hd (fun ad => by unfold sv; rw [hk, hf, hb]; rfl) (fun h n hn => by cases hn; exact h b hb) kk
theorem j_getN {k N a j index : Nat} {C : String} {T : u_T} (hk : kd a = k) (h14 : k < 14) (hc : vwCl[k]? = some (C, T, N)) (hN : nf k = N) (hj : j < N) (hin : ∀ w ∈ u_ws C T N, w ∈ wtbl) (hlink : linked own index T j) (hd : decode cc pc = .ok (.getfield index, 3)) (hf : ft k j = 2) (hb : mr a j = none)
    (kk : J cc nL own nm rt d G X post bc bs mi ml mr dom (pc + 3) lv (.null :: st)) : J cc nL own nm rt d G X post bc bs mi ml mr dom pc lv (.ref a :: st) :=
  j_get hk h14 hc hN hj hin hlink hd (fun ad => by unfold sv; rw [hk, hf, hb]; rfl) (fun _ => okv_null _) kk
/-- a field is written -/
theorem j_put {k N a j index : Nat} {C : String} {T : u_T} {tys : Nat → FieldType} {v : Value} {mi2 : MI} {ml2 : ML} {mr2 : MR} (hk : kd a = k) (h14 : k < 14) (hc : vwCl[k]? = some (C, T, N)) (hN : nf k = N) (hj : j < N) (hin : ∀ w ∈ u_ws C T N, w ∈ wtbl) (hty : ∀ k, k < N → parseFieldDescriptor (T k).2.2.1 = some (tys k)) (hnm : ∀ a, a < N → ∀ b, b < N → a ≠ b → (T a).2.1 ≠ (T b).2.1) (hlink : linked own index T j)
    (hfin : (T j).2.2.2 = false ∨ ((T j).2.2.2 = true ∧ nm = "<init>" ∧ (T j).1 = own ∧ Cond.fieldLink own index (T j).1 (T j).2.1 (T j).2.2.1 ∈ wtbl)) (hn : ∀ ad, narrow (tys j) (rn ad v) = rn ad v) (hfit : ∀ ad, fits (tys j) (rn ad v) = true) (hd : decode cc pc = .ok (.putfield index, 3))
    (hv : ∀ ad, sv ad mi2 ml2 mr2 a j = rn ad v) (hne : ∀ ad i, i ≠ j → sv ad mi2 ml2 mr2 a i = sv ad mi ml mr a i) (ho : ∀ n, n ≠ a → mi2 n = mi n ∧ ml2 n = ml n ∧ mr2 n = mr n) (hmr : ∀ i b, mr2 a i = some b → mr a i = some b ∨ v = .ref b)
    (kk : J cc nL own nm rt d G X post bc bs mi2 ml2 mr2 dom (pc + 3) lv st) : J cc nL own nm rt d G X post bc bs mi ml mr dom pc lv (v :: .ref a :: st) := by
  obtain ⟨p, l, e, R, s, m, args, below, meth, c, ad0, dom0⟩ := X
  intro ok ad H locs cells slots ls hR hS hE hc2 hs hl hol hos
  have ha : a ∈ dom := in_dom hos.t (by omega)
  obtain ⟨q, hq, hw⟩ := wl_get (G := G) (ad := ad) (mi := mi) (ml := ml) (mr := mr) ha
  rw [cel_obj hk h14, hN] at hw
  have hkn : KN G s := ok.2.2.2.2.2.1
  have hset : (wl G ad mi ml mr dom).set q (ad a, .inr (k, ((List.range N).map (fun j => sv ad mi ml mr a j)).set j (rn ad v))) = wl G ad mi2 ml2 mr2 dom := by
    refine wl_set hR.2.1 hq ?_ (fun n hna => cel_congr (ho n hna).1 (ho n hna).2.1 (ho n hna).2.2)
    rw [cel_obj hk h14, hN, range_set (hv ad) (hne ad)]
  have fin : ∀ (H1 : Heap) (locs1 : List Loc), va_P G.1 vwCl ((wl G ad mi ml mr dom).set q (ad a, .inr (k, ((List.range N).map (fun j => sv ad mi ml mr a j)).set j (rn ad v)))) H1 → va_D (gA G) ((wl G ad mi ml mr dom).set q (ad a, .inr (k, ((List.range N).map (fun j => sv ad mi ml mr a j)).set j (rn ad v)))) → va_S (gA G) G.2.2.1 H1 locs1 → W p l e R s m args below meth c H1 locs1 cells slots (MQ below (Qx G ad0 dom0 post) args s R.cells R.slots (gA G)) (F0 m (pc + 3) ls (st.map (rn ad))) := by
    intro H1 locs1 hP1 hD1 hS1
    rw [hset] at hP1 hD1
    refine kk ok ad H1 locs1 cells slots ls ⟨hP1, hD1, fun n hn2 i b hb => ?_, hR.2.2.2⟩ hS1 hE hc2 hs hl hol hos.t.t
    by_cases hna : n = a
    · subst hna
      rcases hmr i b hb with h | h
      · exact hR.2.2.1 n hn2 i b h
      · exact hos.h b h
    · rw [(ho n hna).2.2] at hb; exact hR.2.2.1 n hn2 i b hb
  have hll : j < ((List.range N).map (fun j => sv ad mi ml mr a j)).length := by simpa using hj
  rcases hfin with hfin | ⟨hfin, hin2, hdecl, hlink2⟩
  · rcases hlink with hlink | ⟨host, hlink⟩
    · exact va_put ok.1 ok.2.1 ok.2.2.2.2.1 hin tys hty hnm ok.2.2.2.1 hkn.1 hR.1 hR.2.1 hS q hw hc j hj (ok.2.2.2.2.1 _ hlink) (fun _ h => h) hfin (hty j hj) (hn ad) (hfit ad) hll hd fin
    · exact va_putN ok.1 ok.2.1 ok.2.2.2.2.1 hin tys hty hnm ok.2.2.2.1 hkn.1 hR.1 hR.2.1 hS q hw hc j hj (va_Nw.use rfl ((hkn.2.2.2 s hkn.2.1).1 _ hlink)) (fun _ h => h) hfin (hty j hj) (hn ad) (hfit ad) hll hd fin
  · exact va_putF ok.1 ok.2.1 ok.2.2.2.2.1 hin tys hty hnm ok.2.2.2.1 hkn.1 hR.1 hR.2.1 hS q hw hc j hj (ok.2.2.2.2.1 _ hlink2) (fun _ h => h) hfin (ok.2.2.2.2.2.2.2.2.1.trans hin2) hdecl (hty j hj) (hn ad) (hfit ad) hll hd fin
theorem j_putI {k N a j index : Nat} {C : String} {T : u_T} {tys : Nat → FieldType} {x : Int32} (hk : kd a = k) (h14 : k < 14) (hc : vwCl[k]? = some (C, T, N)) (hN : nf k = N) (hj : j < N) (hin : ∀ w ∈ u_ws C T N, w ∈ wtbl) (hty : ∀ k, k < N → parseFieldDescriptor (T k).2.2.1 = some (tys k)) (hnm : ∀ a, a < N → ∀ b, b < N → a ≠ b → (T a).2.1 ≠ (T b).2.1) (hlink : linked own index T j)
    (hfin : (T j).2.2.2 = false) (ht : tys j = .int) (hd : decode cc pc = .ok (.putfield index, 3)) (hf : ft k j = 0) (kk : J cc nL own nm rt d G X post bc bs (up mi a j x) ml mr dom (pc + 3) lv st) : J cc nL own nm rt d G X post bc bs mi ml mr dom pc lv (.int x :: .ref a :: st) :=
  j_put (v := .int x) (mi2 := up mi a j x) hk h14 hc hN hj hin hty hnm hlink (Or.inl hfin) (fun ad => by rw [ht]; rfl) (fun ad => by rw [ht]; rfl) hd (fun ad => by unfold sv; rw [hk, hf, up_at]; rfl) (fun ad i hi => by unfold sv; rw [up_ne _ _ hi]) (fun n hn => ⟨up_off _ _ hn, rfl, rfl⟩) (fun i b h => Or.inl h) kk
theorem j_putZ {k N a j index : Nat} {C : String} {T : u_T} {tys : Nat → FieldType} {x : Int32} (hk : kd a = k) (h14 : k < 14) (hc : vwCl[k]? = some (C, T, N)) (hN : nf k = N) (hj : j < N) (hin : ∀ w ∈ u_ws C T N, w ∈ wtbl) (hty : ∀ k, k < N → parseFieldDescriptor (T k).2.2.1 = some (tys k)) (hnm : ∀ a, a < N → ∀ b, b < N → a ≠ b → (T a).2.1 ≠ (T b).2.1) (hlink : linked own index T j)
    (hfin : (T j).2.2.2 = false) (ht : tys j = .boolean) (hx : x = 0 ∨ x = 1) (hd : decode cc pc = .ok (.putfield index, 3)) (hf : ft k j = 0) (kk : J cc nL own nm rt d G X post bc bs (up mi a j x) ml mr dom (pc + 3) lv st) : J cc nL own nm rt d G X post bc bs mi ml mr dom pc lv (.int x :: .ref a :: st) :=
  j_put (v := .int x) (mi2 := up mi a j x) hk h14 hc hN hj hin hty hnm hlink (Or.inl hfin) (fun ad => by rw [ht]; rcases hx with rfl | rfl <;> rfl) (fun ad => by rw [ht]; rcases hx with rfl | rfl <;> rfl) hd (fun ad => by unfold sv; rw [hk, hf, up_at]; rfl) (fun ad i hi => by unfold sv; rw [up_ne _ _ hi]) (fun n hn => ⟨up_off _ _ hn, rfl, rfl⟩) (fun i b h => Or.inl h) kk
theorem j_putL {k N a j index : Nat} {C : String} {T : u_T} {tys : Nat → FieldType} {x : Int64} (hk : kd a = k) (h14 : k < 14) (hc : vwCl[k]? = some (C, T, N)) (hN : nf k = N) (hj : j < N) (hin : ∀ w ∈ u_ws C T N, w ∈ wtbl) (hty : ∀ k, k < N → parseFieldDescriptor (T k).2.2.1 = some (tys k)) (hnm : ∀ a, a < N → ∀ b, b < N → a ≠ b → (T a).2.1 ≠ (T b).2.1) (hlink : linked own index T j)
    (hfin : (T j).2.2.2 = false) (ht : tys j = .long) (hd : decode cc pc = .ok (.putfield index, 3)) (hf : ft k j = 1) (kk : J cc nL own nm rt d G X post bc bs mi (upl ml a j x) mr dom (pc + 3) lv st) : J cc nL own nm rt d G X post bc bs mi ml mr dom pc lv (.long x :: .ref a :: st) :=
  j_put (v := .long x) (ml2 := upl ml a j x) hk h14 hc hN hj hin hty hnm hlink (Or.inl hfin) (fun ad => by rw [ht]; rfl) (fun ad => by rw [ht]; rfl) hd (fun ad => by unfold sv; rw [hk, hf, upl_at]; rfl) (fun ad i hi => by unfold sv; rw [upl_ne _ _ hi]) (fun n hn => ⟨rfl, upl_off _ _ hn, rfl⟩) (fun i b h => Or.inl h) kk
theorem j_putR {k N a j b index : Nat} {C : String} {T : u_T} {tys : Nat → FieldType} (hk : kd a = k) (h14 : k < 14) (hc : vwCl[k]? = some (C, T, N)) (hN : nf k = N) (hj : j < N) (hin : ∀ w ∈ u_ws C T N, w ∈ wtbl) (hty : ∀ k, k < N → parseFieldDescriptor (T k).2.2.1 = some (tys k)) (hnm : ∀ a, a < N → ∀ b, b < N → a ≠ b → (T a).2.1 ≠ (T b).2.1) (hlink : linked own index T j)
    (hfin : (T j).2.2.2 = false ∨ ((T j).2.2.2 = true ∧ nm = "<init>" ∧ (T j).1 = own ∧ Cond.fieldLink own index (T j).1 (T j).2.1 (T j).2.2.1 ∈ wtbl)) (ht : (∃ C, tys j = .object C) ∨ ∃ t, tys j = .array t) (hd : decode cc pc = .ok (.putfield index, 3)) (hf : ft k j = 2) (kk : J cc nL own nm rt d G X post bc bs mi ml (upr mr a j (some b)) dom (pc + 3) lv st) : J cc nL own nm rt d G X post bc bs mi ml mr dom pc lv (.ref b :: .ref a :: st) :=
  j_put (v := .ref b) (mr2 := upr mr a j (some b)) hk h14 hc hN hj hin hty hnm hlink hfin (fun ad => by rcases ht with ⟨C, h⟩ | ⟨C, h⟩ <;> rw [h] <;> rfl) (fun ad => by rcases ht with ⟨C, h⟩ | ⟨C, h⟩ <;> rw [h] <;> rfl) hd (fun ad => by unfold sv; rw [hk, hf, upr_at]; rfl) (fun ad i hi => by unfold sv; rw [upr_ne _ _ hi]) (fun n hn => ⟨rfl, rfl, upr_off _ _ hn⟩)
    (fun i z h => by
      by_cases hi : i = j
      · subst hi; rw [upr_at] at h; cases h; exact Or.inr rfl
      · rw [upr_ne _ _ hi] at h; exact Or.inl h) kk
end R2
