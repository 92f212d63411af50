/-! a body that ends by throwing: the rows that it needs, over vx_MQ -/
def NSE : String := "java/util/NoSuchElementException"
/-- where it throws: the class of what is thrown; the memory is as it was -/
def XC0 (G : GG) (ad0 : Nat → Nat) (mi : MI) (ml : ML) (mr : MR) (dom : List Nat) : String → State → State → Prop := fun E _ t => E = NSE ∧ ∃ ad : Nat → Nat, Rel G ad mi ml mr dom t.heap ∧ va_S (gA G) G.2.2.1 t.heap [] ∧ ∀ n ∈ dom, ad n = ad0 n
def SXx (G : GG) (X : Cx) : Prop := match X with
  | (_, l, _, _, s, _, _, _, _, c, _, _) => va_S (gA G) G.2.2.1 s.heap [] ∧ l.stackTraces = false ∧ ∀ x ∈ c.exceptionTable.toList, False
def JWX (nL : Nat) (G : GG) (X : Cx) (m0 : MI) (l0 : ML) (r0 : MR) (bc bs : Nat) (mi : MI) (ml : ML) (mr : MR) (dom : List Nat) (pc : Nat) (lv : List (Option Value)) (st : List Value) : Prop := match X with
  | (p, l, e, R, s, m, args, below, meth, c, ad0, dom0) =>
    ∀ (ad : Nat → Nat) (H : Heap) (locs : List Loc) (cells slots : Nat) (ls : Array Slot), Rel G ad mi ml mr dom H → va_S (gA G) G.2.2.1 H locs → (∀ n ∈ dom0, n ∈ dom ∧ ad n = ad0 n) → cells + bc ≤ R.cells → slots + bs ≤ R.slots → LH ad ls nL lv → okl dom lv → oks dom st →
      W p l e R s m args below meth c H locs cells slots (vx_MQ below (fun _ _ _ _ => False) (XC0 G ad0 m0 l0 r0 dom0) args s R.cells R.slots (gA G)) (F0 m pc ls (st.map (rn ad)))
def JX (cc : ByteArray) (nL : Nat) (own nm : String) (rt : Option FieldType) (d : Nat) (G : GG) (X : Cx) (m0 : MI) (l0 : ML) (r0 : MR) (bc bs : Nat) (mi : MI) (ml : ML) (mr : MR) (dom : List Nat) (pc : Nat) (lv : List (Option Value)) (st : List Value) : Prop :=
  OkX cc nL own nm rt d G X → SXx G X → JWX nL G X m0 l0 r0 bc bs mi ml mr dom pc lv st
section XR1
variable {cc : ByteArray} {nL : Nat} {own nm : String} {rt : Option FieldType} {d : Nat} {G : GG} {X : Cx} {m0 : MI} {l0 : ML} {r0 : MR} {bc bs : Nat} {mi : MI} {ml : ML} {mr : MR} {dom : List Nat} {pc a b : Nat} {lv : List (Option Value)} {st : List Value}
theorem x_iconst {n : Int} {v : Int32} (hd : decode cc pc = .ok (.iconst n, 1)) (hv : Int32.ofInt n = v) (k : JX cc nL own nm rt d G X m0 l0 r0 bc bs mi ml mr dom (pc + 1) lv (.int v :: st)) : JX cc nL own nm rt d G X m0 l0 r0 bc bs mi ml mr dom pc lv (st) := by
  obtain ⟨p, l, e, R, s, m, args, below, meth, c, ad0, dom0⟩ := X
  intro ok hSx ad H locs cells slots ls hR hS hE hc hs hl hol hos
  exact lv_iconst ok.1 ok.2.1 hd hv (k ok hSx ad H locs cells slots ls hR hS hE hc hs hl hol (hos.c (okv_int _ _)))
theorem x_iload_n {k4 : Fin 4} {i : Nat} {x : Int32} (hd : decode cc pc = .ok (.iload_n k4, 1)) (hi : (k4 : Nat) = i) (hg : lv[i]? = some (some (.int x))) (k : JX cc nL own nm rt d G X m0 l0 r0 bc bs mi ml mr dom (pc + 1) lv (.int x :: st)) : JX cc nL own nm rt d G X m0 l0 r0 bc bs mi ml mr dom pc lv (st) := by
  obtain ⟨p, l, e, R, s, m, args, below, meth, c, ad0, dom0⟩ := X
  intro ok hSx ad H locs cells slots ls hR hS hE hc hs hl hol hos
  exact lv_iload_n ok.1 ok.2.1 hd hi (hl.get hg) (k ok hSx ad H locs cells slots ls hR hS hE hc hs hl hol (hos.c (hol.at hg)))
theorem x_aload_n {k4 : Fin 4} {i : Nat} {x : Nat} (hd : decode cc pc = .ok (.aload_n k4, 1)) (hi : (k4 : Nat) = i) (hg : lv[i]? = some (some (.ref x))) (k : JX cc nL own nm rt d G X m0 l0 r0 bc bs mi ml mr dom (pc + 1) lv (.ref x :: st)) : JX cc nL own nm rt d G X m0 l0 r0 bc bs mi ml mr dom pc lv (st) := by
  obtain ⟨p, l, e, R, s, m, args, below, meth, c, ad0, dom0⟩ := X
  intro ok hSx ad H locs cells slots ls hR hS hE hc hs hl hol hos
  exact lv_aload_n ok.1 ok.2.1 hd hi (hl.get hg) (k ok hSx ad H locs cells slots ls hR hS hE hc hs hl hol (hos.c (hol.at hg)))
theorem x_istore_n {k4 : Fin 4} {i : Nat} {x : Int32} {lv2 : List (Option Value)} (hd : decode cc pc = .ok (.istore_n k4, 1)) (hi : (k4 : Nat) = i) (hn : i < nL) (hz : nolong lv i = true) (h2 : (lv.set i (some (.int x))) = lv2) (k : JX cc nL own nm rt d G X m0 l0 r0 bc bs mi ml mr dom (pc + 1) lv2 st) : JX cc nL own nm rt d G X m0 l0 r0 bc bs mi ml mr dom pc lv (.int x :: st) := by
  subst h2
  obtain ⟨p, l, e, R, s, m, args, below, meth, c, ad0, dom0⟩ := X
  intro ok hSx ad H locs cells slots ls hR hS hE hc hs hl hol hos
  exact lv_istore_n ok.1 ok.2.1 hd hi hl hn rfl (fun ls hl2 => k ok hSx ad H locs cells slots ls hR hS hE hc hs (LH.store (v := .int x) hz hl2) (hol.set hos.h) hos.t)
theorem x_iinc {i : Nat} {n : Int} {x v : Int32} {lv2 : List (Option Value)} (hd : decode cc pc = .ok (.iinc i n, 3)) (hg : lv[i]? = some (some (.int x))) (hv : x + Int32.ofInt n = v) (hn : i < nL) (hz : nolong lv i = true) (h2 : lv.set i (some (.int v)) = lv2) (k : JX cc nL own nm rt d G X m0 l0 r0 bc bs mi ml mr dom (pc + 3) lv2 st) : JX cc nL own nm rt d G X m0 l0 r0 bc bs mi ml mr dom pc lv st := by
  subst h2
  obtain ⟨p, l, e, R, s, m, args, below, meth, c, ad0, dom0⟩ := X
  intro ok hSx ad H locs cells slots ls hR hS hE hc hs hl hol hos
  obtain ⟨q, hq⟩ := List.getElem?_of_mem (lvl_mem (ad := ad) hg)
  exact lv_iinc ok.1 ok.2.1 hd hl hq hv hn rfl (fun ls hl2 => k ok hSx ad H locs cells slots ls hR hS hE hc hs (LH.store (v := .int v) hz hl2) (hol.set (okv_int _ _)) hos)
theorem x_iinc1 {own : String} {i : Nat} {x : Int32} {lv2 : List (Option Value)} (hd : decode cc pc = .ok (.iinc i 1, 3)) (hg : lv[i]? = some (some (.int x))) (hn : i < nL) (hz : nolong lv i = true) (h2 : lv.set i (some (.int (x + 1))) = lv2) (k : JX cc nL own nm rt d G X m0 l0 r0 bc bs mi ml mr dom (pc + 3) lv2 st) : JX cc nL own nm rt d G X m0 l0 r0 bc bs mi ml mr dom pc lv st := x_iinc hd hg (by rfl) hn hz h2 k
theorem x_iincm {own : String} {i : Nat} {x : Int32} {lv2 : List (Option Value)} (hd : decode cc pc = .ok (.iinc i (-1), 3)) (hg : lv[i]? = some (some (.int x))) (hn : i < nL) (hz : nolong lv i = true) (h2 : lv.set i (some (.int (x - 1))) = lv2) (k : JX cc nL own nm rt d G X m0 l0 r0 bc bs mi ml mr dom (pc + 3) lv2 st) : JX cc nL own nm rt d G X m0 l0 r0 bc bs mi ml mr dom pc lv st := x_iinc hd hg (by rw [Int32.sub_eq_add_neg]; rfl) hn hz h2 k
theorem x_goto {off : Int} {tgt : Nat} (hd : decode cc pc = .ok (.goto off, 3)) (ht : (pc : Int) + off = (tgt : Int)) (k : JX cc nL own nm rt d G X m0 l0 r0 bc bs mi ml mr dom tgt lv st) : JX cc nL own nm rt d G X m0 l0 r0 bc bs mi ml mr dom pc lv st := by
  obtain ⟨p, l, e, R, s, m, args, below, meth, c, ad0, dom0⟩ := X
  intro ok hSx ad H locs cells slots ls hR hS hE hc hs hl hol hos
  exact lv_goto ok.1 ok.2.1 hd ht (k ok hSx ad H locs cells slots ls hR hS hE hc hs hl hol (hos))
theorem x_icmp_ge {x y : Int32} {off : Int} {tgt : Nat} (hd : decode cc pc = .ok (.if_icmp .ge off, 3)) (ht : (pc : Int) + off = (tgt : Int)) (kt : y ≤ x → JX cc nL own nm rt d G X m0 l0 r0 bc bs mi ml mr dom tgt lv st) (kf : ¬ y ≤ x → JX cc nL own nm rt d G X m0 l0 r0 bc bs mi ml mr dom (pc + 3) lv st) : JX cc nL own nm rt d G X m0 l0 r0 bc bs mi ml mr dom pc lv (.int y :: .int x :: st) := by
  obtain ⟨p, l, e, R, s, m, args, below, meth, c, ad0, dom0⟩ := X
  intro ok hSx ad H locs cells slots ls hR hS hE hc hs hl hol hos
  exact lv_icmp_ge ok.1 ok.2.1 hd ht (fun q => kt q ok hSx ad H locs cells slots ls hR hS hE hc hs hl hol hos.t.t) (fun q => kf q ok hSx ad H locs cells slots ls hR hS hE hc hs hl hol hos.t.t)
theorem x_icmp_ne {x y : Int32} {off : Int} {tgt : Nat} (hd : decode cc pc = .ok (.if_icmp .ne off, 3)) (ht : (pc : Int) + off = (tgt : Int)) (kt : ¬ x = y → JX cc nL own nm rt d G X m0 l0 r0 bc bs mi ml mr dom tgt lv st) (kf : x = y → JX cc nL own nm rt d G X m0 l0 r0 bc bs mi ml mr dom (pc + 3) lv st) : JX cc nL own nm rt d G X m0 l0 r0 bc bs mi ml mr dom pc lv (.int y :: .int x :: st) := by
  obtain ⟨p, l, e, R, s, m, args, below, meth, c, ad0, dom0⟩ := X
  intro ok hSx ad H locs cells slots ls hR hS hE hc hs hl hol hos
  exact lv_icmp_ne ok.1 ok.2.1 hd ht (fun q => kt q ok hSx ad H locs cells slots ls hR hS hE hc hs hl hol hos.t.t) (fun q => kf q ok hSx ad H locs cells slots ls hR hS hE hc hs hl hol hos.t.t)
theorem x_if_ne {x : Int32} {off : Int} {tgt : Nat} (hd : decode cc pc = .ok (.ifCond .ne off, 3)) (ht : (pc : Int) + off = (tgt : Int)) (kt : ¬ x = 0 → JX cc nL own nm rt d G X m0 l0 r0 bc bs mi ml mr dom tgt lv st) (kf : x = 0 → JX cc nL own nm rt d G X m0 l0 r0 bc bs mi ml mr dom (pc + 3) lv st) : JX cc nL own nm rt d G X m0 l0 r0 bc bs mi ml mr dom pc lv (.int x :: st) := by
  obtain ⟨p, l, e, R, s, m, args, below, meth, c, ad0, dom0⟩ := X
  intro ok hSx ad H locs cells slots ls hR hS hE hc hs hl hol hos
  exact lv_if_ne ok.1 ok.2.1 hd ht (fun q => kt q ok hSx ad H locs cells slots ls hR hS hE hc hs hl hol hos.t) (fun q => kf q ok hSx ad H locs cells slots ls hR hS hE hc hs hl hol hos.t)
theorem x_get {k N a j index : Nat} {C : String} {T : u_T} {v : Value} (hk : kd a = k) (h14 : k < 14) (hc : vwCl[k]? = some (C, T, N)) (hN : nf k = N) (hj : j < N) (hin : ∀ w ∈ u_ws C T N, w ∈ wtbl) (hlink : linked own index T j) (hd : decode cc pc = .ok (.getfield index, 3))
    (hv : ∀ ad, sv ad mi ml mr a j = rn ad v) (hvo : (∀ b, mr a j = some b → okn dom b) → okv dom v) (kk : JX cc nL own nm rt d G X m0 l0 r0 bc bs mi ml mr dom (pc + 3) lv (v :: st)) : JX cc nL own nm rt d G X m0 l0 r0 bc bs mi ml mr dom pc lv (.ref a :: st) := by
  obtain ⟨p, l, e, R, s, m, args, below, meth, c, ad0, dom0⟩ := X
  intro ok hSx ad H locs cells slots ls hR hS hE hc2 hs hl hol hos
  have ha : a ∈ dom := in_dom hos (by omega)
  obtain ⟨q, hq, hw⟩ := wl_get (G := G) (ad := ad) (mi := mi) (ml := ml) (mr := mr) ha
  rw [cel_obj hk h14, hN] at hw
  have hkn : KN G s := ok.2.2.2.2.2.1
  have hfs : ((List.range N).map (fun j => sv ad mi ml mr a j))[j]? = some (rn ad v) := by simp [hj, hv]
  have kk := kk ok hSx ad H locs cells slots ls hR hS hE hc2 hs hl hol (hos.t.c (hvo (hR.2.2.1 a ha j)))
  rcases hlink with hlink | ⟨host, hlink⟩
  · exact va_get ok.1 ok.2.1 ok.2.2.2.2.1 hin ok.2.2.2.1 hkn.1 hR.1 q hw hc j hj (ok.2.2.2.2.1 _ hlink) (fun _ h => h) hfs hd kk
  · exact va_getN ok.1 ok.2.1 ok.2.2.2.2.1 hin ok.2.2.2.1 hkn.1 hR.1 q hw hc j hj (va_Nw.use rfl ((hkn.2.2.2 s hkn.2.1).1 _ hlink)) (fun _ h => h) hfs hd kk
theorem x_getI {k N a j index : Nat} {C : String} {T : u_T} (hk : kd a = k) (h14 : k < 14) (hc : vwCl[k]? = some (C, T, N)) (hN : nf k = N) (hj : j < N) (hin : ∀ w ∈ u_ws C T N, w ∈ wtbl) (hlink : linked own index T j) (hd : decode cc pc = .ok (.getfield index, 3)) (hf : ft k j = 0)
    (kk : JX cc nL own nm rt d G X m0 l0 r0 bc bs mi ml mr dom (pc + 3) lv (.int (mi a j) :: st)) : JX cc nL own nm rt d G X m0 l0 r0 bc bs mi ml mr dom pc lv (.ref a :: st) :=
  x_get hk h14 hc hN hj hin hlink hd (fun ad => by unfold sv; rw [hk, hf]; rfl) (fun _ => okv_int _ _) kk
theorem x_getR {k N a j b index : Nat} {C : String} {T : u_T} (hk : kd a = k) (h14 : k < 14) (hc : vwCl[k]? = some (C, T, N)) (hN : nf k = N) (hj : j < N) (hin : ∀ w ∈ u_ws C T N, w ∈ wtbl) (hlink : linked own index T j) (hd : decode cc pc = .ok (.getfield index, 3)) (hf : ft k j = 2) (hb : mr a j = some b)
    (kk : JX cc nL own nm rt d G X m0 l0 r0 bc bs mi ml mr dom (pc + 3) lv (.ref b :: st)) : JX cc nL own nm rt d G X m0 l0 r0 bc bs mi ml mr dom pc lv (.ref a :: st) :=
  x_get hk h14 hc hN hj hin hlink hd (fun ad => by unfold sv; rw [hk, hf, hb]; rfl) (fun h n hn => by cases hn; exact h b hb) kk
theorem x_aald {a b k : Nat} {i : Int32} {C : String} (hk : kd a = k) (h17 : 17 ≤ k) (ht : ∀ G : GG, (gty G)[k - 14]? = some (G.2.1 k, .object C)) (hi : vp_in i (ln a)) (hb : mr a i.toNatClampNeg = some b) (hd : decode cc pc = .ok (.aaload, 1)) (h99 : k ≠ 99) (kk : JX cc nL own nm rt d G X m0 l0 r0 bc bs mi ml mr dom (pc + 1) lv (.ref b :: st)) : JX cc nL own nm rt d G X m0 l0 r0 bc bs mi ml mr dom pc lv (.int i :: .ref a :: st) := by
  obtain ⟨p, l, e, R, s, m, args, below, meth, c, ad0, dom0⟩ := X
  intro ok hSx ad H locs cells slots ls hR hS hE hc2 hs hl hol hos
  have ha : a ∈ dom := in_dom hos.t (by omega)
  obtain ⟨q, hq, hw⟩ := wl_get (G := G) (ad := ad) (mi := mi) (ml := ml) (mr := mr) ha
  rw [cel_ref hk h17] at hw
  refine va_aldq ok.1 ok.2.1 ok.2.2.2.2.2.1.1 hR.1 q (k - 14) hw (ht G) hi hd ?_
  simp only [hb]
  exact kk ok hSx ad H locs cells slots ls hR hS hE hc2 hs hl hol (hos.t.t.c (fun n hn => by cases hn; exact hR.2.2.1 a ha _ b hb))
theorem x_run {d' mc' ms' nL' : Nat} {y : MethodName} {cc' : ByteArray} {rt' : Option FieldType} {p : Program} {l : Launch} {e : Env} {R : Room} {s : State} {m : MethodId} {args : Array Value} {below : List Frame} {meth : Method} {c : Code} {ad0 ad : Nat → Nat} {dom0 : List Nat} {H : Heap} {locs : List Loc} {cells slots : Nat} {ls : Array Slot} {Aw : Array Value} {st0 : List Value} {mi' : MI}
    (hrun : va_Run p l e R s m args below meth c H locs cells slots mc' ms' (F0 m pc ls st0) (st.map (rn ad)) (Qx G ad dom (fun v mi' ml' mr' dom' => JX cc nL own nm rt d G (p, l, e, R, s, m, args, below, meth, c, ad0, dom0) m0 l0 r0 (bc - mc') (bs - ms') mi' ml' mr' dom' (pc + 3) lv (vst v st)) Aw) (gA G))
    (ok : OkX cc nL own nm rt d G (p, l, e, R, s, m, args, below, meth, c, ad0, dom0)) (hSx : SXx G (p, l, e, R, s, m, args, below, meth, c, ad0, dom0)) (hR : Rel G ad mi ml mr dom H) (hS : va_S (gA G) G.2.2.1 H locs) (hE : ∀ n ∈ dom0, n ∈ dom ∧ ad n = ad0 n) (hc : cells + bc ≤ R.cells) (hs : slots + bs ≤ R.slots) (hl : LH ad ls nL lv) (hol : okl dom lv) (hos : oks dom st) (hmc : mc' ≤ bc) (hms : ms' ≤ bs) :
    W p l e R s m args below meth c H locs cells slots (vx_MQ below (fun _ _ _ _ => False) (XC0 G ad0 m0 l0 r0 dom0) args s R.cells R.slots (gA G)) (F0 m pc ls st0) := by
  intro T hT X
  obtain ⟨v, st₀, t, T', L, h0, X', hL, e1, e2, ⟨w, mi2, ml2, mr2, dom2, ad2, hv, hp, hR2, hS2, hvo, hE2⟩, st2⟩ := hrun T hT X
  have hlit : ∀ n, lit n → ad2 n = ad n := fun n hn => (hR2.2.2.2.1 n hn).trans (hR.2.2.2.1 n hn).symm
  have hvw : v = w.map (rn ad2) := by injection hv
  have hst : (vst w st).map (rn ad2) = v.toList ++ st.map (rn ad) := by
    have h1 : st.map (rn ad2) = st.map (rn ad) := List.map_congr_left (fun x hx => rn_eq hlit hE2 (hos x hx))
    rw [hvw]
    cases w with
    | none => simpa using h1
    | some w => simpa using h1
  have hlv2 : LH ad2 ls nL lv := by
    refine ⟨hl.1, hl.2.1, fun q hq => ?_⟩
    obtain ⟨x, g1, g2⟩ := lvl_inv hq
    rw [g2, rn_eq hlit hE2 (hol.at g1)]
    exact hl.get g1
  have hS3 : va_S (gA G) G.2.2.1 T'.heap (locs ++ L) := by
    rw [e1]
    exact ⟨hS2.1, hS2.2.1, fun q hq => (List.mem_append.mp hq).elim (hS.2.2 q) (hL q)⟩
  have hk := hp ok hSx ad2 T'.heap (locs ++ L) (cells + mc') (slots + ms') ls (by rw [e1]; exact hR2) hS3 (fun n hn => ⟨(hE2 n (hE n hn).1).1, ((hE2 n (hE n hn).1).2).trans (hE n hn).2⟩) (by omega) (by omega) hlv2 (fun x hx => (hol x hx).up (fun n hn => (hE2 n hn).1))
    (fun x hx => by
      cases w with
      | none => exact (hos x hx).up (fun n hn => (hE2 n hn).1)
      | some w =>
        rcases List.mem_cons.mp hx with rfl | hx
        · exact hvo _ rfl
        · exact (hos x hx).up (fun n hn => (hE2 n hn).1))
  rw [hst] at hk
  obtain ⟨t2, a1, b1⟩ := hk T' rfl X'
  exact ⟨t2, st2 t2 a1, b1⟩
theorem x_callV {k N d' mc' ms' nL' index n b : Nat} {T : u_T} {y : MethodName} {cc' : ByteArray} {rt' : Option FieldType} {As : List Value} {stk : List Value} (hk : kd b = k) (h14 : k < 14) (hc : vwCl[k]? = some (y.cls, T, N)) (hini : Cond.initialized y.cls ∈ wtbl) (hlink : Cond.methodLink own index y ∈ wtbl) (hinst : Cond.instanceMethod y ∈ wtbl) (hsel : Cond.selects y.cls y y ∈ wtbl) (hcode : Cond.code y cc' nL' rt' ∈ wtbl)
    (hy : y.cls ≠ "java/lang/invoke/MethodHandle" ∧ y.cls ≠ "java/lang/invoke/VarHandle" ∧ (parseMethodDescriptor y.desc).map (fun d => d.parameters.length) = some n) (hn : As.length = n) (hnl : nL' ≤ 45) (hd : decode cc pc = .ok (.invokevirtual index, 3)) (hdd : d' + 1 ≤ d) (hmc : mc' ≤ bc) (hms : ms' ≤ bs) (hst : (st.map fun v => v.category).sum ≤ 8) (hstk : stk = As.reverse ++ .ref b :: st)
    (ct : CT G d' mc' ms' y cc' nL' rt' (.ref b :: As) mi ml mr dom (fun v mi' ml' mr' dom' => JX cc nL own nm rt d G X m0 l0 r0 (bc - mc') (bs - ms') mi' ml' mr' dom' (pc + 3) lv (vst v st))) : JX cc nL own nm rt d G X m0 l0 r0 bc bs mi ml mr dom pc lv stk := by
  subst hstk
  obtain ⟨p, l, e, R, s, m, args, below, meth, c, ad0, dom0⟩ := X
  intro ok hSx ad H locs cells slots ls hR hS hE hc2 hs hl hol hos
  have hosr : oks dom st := fun v hv => hos v (List.mem_append_right _ (List.mem_cons_of_mem _ hv))
  have hosa : oks dom (.ref b :: As) := fun v hv => by
    rcases List.mem_cons.mp hv with rfl | hv
    · exact hos _ (List.mem_append_right _ List.mem_cons_self)
    · exact hos _ (List.mem_append_left _ (List.mem_reverse.mpr hv))
  obtain ⟨q, hq, hw⟩ := wl_get (G := G) (ad := ad) (mi := mi) (ml := ml) (mr := mr) (in_dom hosa (by omega))
  rw [cel_obj hk h14] at hw
  have hkn : KN G s := ok.2.2.2.2.2.1
  refine x_run (mc' := mc') (ms' := ms') (d' := d') (nL' := nL') (y := y) (cc' := cc') (rt' := rt') (mi' := mi) (va_runV (C := y.cls) (b := ad b) (As := As.map (rn ad)) (n := n) (nL := nL) ⟨ok.1, ok.2.1, ok.2.2.1, ok.2.2.2.1, ok.2.2.2.2.1⟩ (ct l ad) ⟨j_callB ok.2.2.2.2.1 hini hlink hcode hy (by rw [ok.2.2.2.2.2.2.2.2.2.1]; exact hdd) (by rw [ok.2.2.2.2.2.2.2.2.2.2]; omega), ok.2.2.2.2.1 _ hinst, ok.2.2.2.2.1 _ hsel⟩ ⟨Px_blind, va_recv hkn.1 hR.1 hc hw, j_pre hkn hR hS hosa⟩ rfl (by simpa using hn) hl.1 (by simp [rn]) ?_ hd ⟨by omega, by omega⟩) ok hSx hR hS hE hc2 hs hl hol hosr hmc hms
  exact lv_room (by rw [rn_cats]; exact hst)
theorem xgR11_20 (hk : kd a = 11) (hd : decode cc pc = .ok (.getfield 20, 3)) (hb : mr a 2 = some b) (kk : JX cc nL RX11 nm rt d G X m0 l0 r0 bc bs mi ml mr dom (pc + 3) lv (.ref b :: st)) : JX cc nL RX11 nm rt d G X m0 l0 r0 bc bs mi ml mr dom pc lv (.ref a :: st) := x_getR hk (by decide) rfl rfl (by decide) iX11 (Or.inl wd567) hd rfl hb kk
theorem xgI11_123 (hk : kd a = 9) (hd : decode cc pc = .ok (.getfield 123, 3)) (kk : JX cc nL RX11 nm rt d G X m0 l0 r0 bc bs mi ml mr dom (pc + 3) lv (.int (mi a 6) :: st)) : JX cc nL RX11 nm rt d G X m0 l0 r0 bc bs mi ml mr dom pc lv (.ref a :: st) := x_getI hk (by decide) rfl rfl (by decide) iX9 (Or.inl wd304) hd rfl kk
theorem xgR11_37 (hk : kd a = 11) (hd : decode cc pc = .ok (.getfield 37, 3)) (hb : mr a 5 = some b) (kk : JX cc nL RX11 nm rt d G X m0 l0 r0 bc bs mi ml mr dom (pc + 3) lv (.ref b :: st)) : JX cc nL RX11 nm rt d G X m0 l0 r0 bc bs mi ml mr dom pc lv (.ref a :: st) := x_getR hk (by decide) rfl rfl (by decide) iX11 (Or.inl wd570) hd rfl hb kk
theorem xgR11_160 (hk : kd a = 9) (hd : decode cc pc = .ok (.getfield 160, 3)) (hb : mr a 12 = some b) (kk : JX cc nL RX11 nm rt d G X m0 l0 r0 bc bs mi ml mr dom (pc + 3) lv (.ref b :: st)) : JX cc nL RX11 nm rt d G X m0 l0 r0 bc bs mi ml mr dom pc lv (.ref a :: st) := x_getR hk (by decide) rfl rfl (by decide) iX9 (Or.inl wd330) hd rfl hb kk
theorem xgI11_169 (hk : kd a = 1) (hd : decode cc pc = .ok (.getfield 169, 3)) (kk : JX cc nL RX11 nm rt d G X m0 l0 r0 bc bs mi ml mr dom (pc + 3) lv (.int (mi a 2) :: st)) : JX cc nL RX11 nm rt d G X m0 l0 r0 bc bs mi ml mr dom pc lv (.ref a :: st) := x_getI hk (by decide) rfl rfl (by decide) iX1 (Or.inl wd225) hd rfl kk
theorem xcV11_172 {d1 : Nat} {x0 : Int32} (hk : kd b = 4) (hd : decode cc pc = .ok (.invokevirtual 172, 3)) (hdd : d1 + 1 ≤ d) (hst : (st.map fun v => v.category).sum ≤ 8) (ct : CT G d1 0 0 yX4_placeOfGood cX4_placeOfGood 2 (some .int) [.ref b, .int x0] mi ml mr dom (fun v mi ml mr dom => JX cc nL RX11 nm rt d G X m0 l0 r0 bc bs mi ml mr dom (pc + 3) lv (vst v st))) : JX cc nL RX11 nm rt d G X m0 l0 r0 bc bs mi ml mr dom pc lv (.int x0 :: .ref b :: st) := x_callV (mc' := 0) (ms' := 0) (n := 1) hk (by decide) rfl wd118 wd847 wd819 wd820 wd821 ⟨by decide +kernel, by decide +kernel, by decide +kernel⟩ rfl (by decide) hd hdd (Nat.zero_le _) (Nat.zero_le _) hst rfl ct
def Bx : List Cond := [.declares ⟨"java/lang/RuntimeException", "<init>", "()V"⟩, .declares ⟨"java/lang/Exception", "<init>", "()V"⟩, .declares ⟨"java/lang/Throwable", "<init>", "()V"⟩, .castable NSE NSE]
def GW (G : GG) : Prop := ∀ U : State, G.2.2.2.2 U → ∀ w ∈ Bx, va_Nw w U
theorem Bx_on : ∀ w ∈ Bx, w.onTables = true := by decide +kernel
theorem at0_bad : (vx_at0 RX11 354 NSE ["java/lang/RuntimeException", "java/lang/Exception"]).filter (fun w => !goodWord w) = Bx := by decide +kernel
theorem at0_in : ∀ w ∈ (vx_at0 RX11 354 NSE ["java/lang/RuntimeException", "java/lang/Exception"]).filter goodWord, w ∈ wtbl := by
  intro w hw
  refine wtbl_of ((show ∀ w ∈ (vx_at0 RX11 354 NSE ["java/lang/RuntimeException", "java/lang/Exception"]).filter goodWord, w ∈ lw_tbl by decide +kernel) w hw) (List.mem_filter.mp hw).2
theorem at0_ot : ∀ w ∈ Cond.classLink RX11 352 NSE :: Cond.initialized NSE :: vx_at0 RX11 354 NSE ["java/lang/RuntimeException", "java/lang/Exception"], vx_ot w = true := by decide +kernel
/-- throw new NoSuchElementException() -/
theorem x_throw {pc : Nat} (hGW : GW G) (hdom : mi = m0 ∧ ml = l0 ∧ mr = r0) (hd0 : ∀ n ∈ dom, n ∈ dom) (d0 : decode cc pc = .ok (.new 352, 3)) (d3 : decode cc (pc + 3) = .ok (.dup, 1)) (d4 : decode cc (pc + 4) = .ok (.invokespecial 354, 3)) (d7 : decode cc (pc + 7) = .ok (.athrow, 1)) (h1 : 1 ≤ bc) (h6 : 6 ≤ bs) (hd5 : 6 ≤ d) (hdm : match X with | (_, _, _, _, _, _, _, _, _, _, _, dom0) => dom0 = dom) : JX cc nL RX11 nm rt d G X m0 l0 r0 bc bs mi ml mr dom pc lv [] := by
  obtain ⟨p, l, e, R, s, m, args, below, meth, c, ad0, dom0⟩ := X
  obtain ⟨rfl, rfl, rfl⟩ := hdom
  have hdm : dom0 = dom := hdm
  subst hdm
  intro ok hSx ad H locs cells slots ls hR hS hE hc hs hl hol hos
  have hkn : KN G s := ok.2.2.2.2.2.1
  obtain ⟨-, -, -, -, -, hU, hN⟩ := hkn.2.2.2 s hkn.2.1
  obtain ⟨s1, s2, s3⟩ := hSx
  intro TT9 hT9 X9
  have hsz : s.heap.size ≤ H.size := by
    have := X9.same.2.1
    rw [← hT9]; exact this
  have hS' : va_S (gA G) s.heap H locs := by
    refine ⟨hsz, fun q h1 h2 => ?_, hS.2.2⟩
    have hq : q < G.2.2.1.size := Nat.lt_of_not_le h2
    rw [hS.2.1 q hq h2, s1.2.1 q hq h2]
  refine vx_throw0 (A := gA G) (own := RX11) (cls := NSE) (names := ["java/lang/RuntimeException", "java/lang/Exception"]) (ik := 352) (ic := 354) ok.1 ok.2.1 s2 ok.2.2.2.1 (by decide) (by decide) (ok.2.2.2.2.1 _ wd1291) (ok.2.2.2.2.1 _ wd131) (vx_hat (B := Bx) (fun w hw => ok.2.2.2.2.1 _ (at0_in w hw)) (fun w hw => by rw [at0_bad] at hw; exact hw) (fun w hw => va_Nw.use (Bx_on w hw) (hGW s hkn.2.1 w hw))) at0_ot (hU.kept s1.2.1) (hN.kept s1.2.1) hS' (hl.1.trans ok.2.2.1.symm) d0 d3 d4 d7 (fun x hx => (s3 x hx).elim) ?_ ?_ ?_ ?_ ok.2.2.2.2.2.2.1 (fun t ht hsz hk => ?_) hS.2.2 ?_ ?_ TT9 hT9 X9
  · rw [ok.2.2.2.2.2.2.2.2.2.1]; show 2 + 3 < d; omega
  · rw [ok.2.2.2.2.2.2.2.2.2.2]; show 0 + (13 * 3 + 42) ≤ 64 * d; omega
  · omega
  · omega
  · refine ⟨rfl, ad, ⟨?_, hR.2⟩, ⟨Nat.le_trans hS.1 hsz, fun q h1 h2 => ?_, fun _ h => by cases h⟩, fun n hn => (hE n hn).2⟩
    · exact hR.1.kept (fun k q hkq => hk q.1 (hR.1 k q hkq).lt)
    · rw [hk q (Nat.lt_of_lt_of_le h1 hS.1)]; exact hS.2.1 q h1 h2
  · omega
  · omega
/-- a method that throws, by contract -/
def XCT (G : GG) (d mc ms : Nat) (y : MethodName) (cc : ByteArray) (nL : Nat) (rt : Option FieldType) (args : List Value) (mi : MI) (ml : ML) (mr : MR) (dom : List Nat) : Prop :=
  ∀ (l : Launch) (ad : Nat → Nat), l.stackTraces = false → vx_Met l y (.code y cc nL rt :: wtbl) (rmx d mc ms) (Px G ad args mi ml mr dom) (fun _ _ _ _ => False) (XC0 G ad mi ml mr dom) mc ms (gA G)
end XR1
theorem enterX {d nL mc ms : Nat} {cc : ByteArray} {rt : Option FieldType} {G : GG} {mi : MI} {ml : ML} {mr : MR} {dom : List Nat} {y : MethodName} {args : List Value} {lv0 : List (Option Value)} (k : Nat) (hy : plainName y.cls = true) (hlv : ent args ++ List.replicate k none = lv0) (hlen : lv0.length = nL) (body : ∀ X : Cx, (match X with | (_, _, _, _, _, _, _, _, _, _, _, dom0) => dom0 = dom) → JX cc nL y.cls y.name rt d G X mi ml mr mc ms mi ml mr dom 0 lv0 []) : XCT G d mc ms y cc nL rt args mi ml mr dom := by
  intro l ad hst
  refine vx_ofW (cc := cc) (maxL := nL) (ret := rt) hy rfl ?_
  intro p e s m args' below meth c s₁ B hml htab hv
  obtain ⟨rfl, hoks, hRel, hSl, hKN⟩ := hv
  have hts := atoms_spec (ws := .code y cc nL rt :: wtbl) B.pre
  have hok : OkX cc nL y.cls y.name rt d G (p, l, e, rmx d mc ms, s, m, (args.map (rn ad)).toArray, below, meth, c, ad, dom) :=
    ⟨B.exec, B.bytes, hml, findClass_of_methodNamed B.named, fun w hw => hts w (List.mem_cons_of_mem _ hw), hKN, B.notSynchronized, B.returns, (name_of_methodNamed B.named B.method).1, rfl, rfl⟩
  have hl2 := ent_len ad args
  have hlen2 : (ent args).length ≤ nL := by rw [← hlen, ← hlv]; simp
  have hl := lv_entry (args.map (rn ad)) (n := nL) (by rw [hl2]; exact hlen2)
  rw [lg_entry_eq]
  refine body (p, l, e, rmx d mc ms, s, m, (args.map (rn ad)).toArray, below, meth, c, ad, dom) rfl hok ⟨hSl, hst, htab⟩ ad s.heap [] 0 0 _ hRel hSl (fun n hn => ⟨hn, rfl⟩) (by simp) (by simp) ⟨hl.1, hl.2.1, fun q hq => ?_⟩ (fun v hv => ?_) (fun v hv => by cases hv)
  · obtain ⟨w, h1, h2⟩ := lvl_inv hq
    rw [← hlv] at h1
    have h3 : (ent args)[q.1]? = some (some w) := by
      by_cases hlt : q.1 < (ent args).length
      · rwa [List.getElem?_append_left hlt] at h1
      · rw [List.getElem?_append_right (by omega)] at h1
        have := List.eq_of_mem_replicate (List.mem_of_getElem? h1)
        cases this
    have h4 := hl.2.2 _ (ent_get ad args 0 q.1 w h3)
    rw [Nat.zero_add] at h4
    rw [h2]; exact h4
  · rw [← hlv] at hv
    rcases List.mem_append.mp hv with h | h
    · exact ent_ok hoks v h
    · have := List.eq_of_mem_replicate h
      cases this
section XLED
variable {G : GG} {post : PT} {mi : MI} {ml : ML} {mr : MR} {dom : List Nat} {T : Nat} {t : TW} {v : Nat → Nat}
theorem sub_s1 (x : Int32) (n : Nat) : x - nI n - 1 = x - nI (n + 1) := by
  rw [← nI_1, Int32.sub_sub]
theorem sub_0z {x : Int32} {n : Nat} (h : x - nI n = 0) : nI n = x := by
  have h2 : x - nI n + nI n = 0 + nI n := by rw [h]
  rw [Int32.sub_add_cancel, Int32.zero_add] at h2
  exact h2.symm
theorem cnt_lt2 {P : Nat → Bool} : ∀ n i, i < n → P i = true → cnt P i < cnt P n
  | 0, i, h, _ => absurd h (Nat.not_lt_zero _)
  | n + 1, i, h, hp => by
    by_cases e : i = n
    · subst e; show cnt P i < (if P i then cnt P i + 1 else cnt P i); rw [if_pos hp]; omega
    · have := cnt_lt2 n i (by omega) hp
      show cnt P i < (if P n then cnt P n + 1 else cnt P n); split <;> omega
theorem cx_led {x : Int32} {g : Nat} (hX : XR mr) (hT : TT T) (hTn : mr 0 2 = some T) (hW : WT t) (hR : RX mi T t) (hG : GP mi t v) (hg : g < t 0 6) (hL : LED t v x g) (hp : post (some (.int (nI g))) mi ml mr dom) : CT G 2 0 0 yX11_led cX11_led 4 (some .int) [.ref 0, .int x] mi ml mr dom post := by
  have w := hW.1
  refine enter 2 (by decide) rfl rfl (fun X => ?_)
  refine j_iload_n dX11_led_0 rfl rfl ?_
  refine j_istore_n (lv2 := [_, _, _, _]) dX11_led_1 rfl (by decide) rfl rfl ?_
  refine j_iconst (v := nI 0) dX11_led_2 (by decide) ?_
  refine j_istore_n (lv2 := [_, _, _, _]) dX11_led_3 rfl (by decide) rfl rfl ?_
  have key : J cX11_led 4 yX11_led.cls yX11_led.name (some .int) 2 G X post 0 0 mi ml mr dom 4 [some (.ref 0), some (.int x), some (.int (x - nI (cnt (fun j => !mgo t v j) 0))), some (.int (nI 0))] [] := by
    refine lq (n := g) (H := fun i => J cX11_led 4 yX11_led.cls yX11_led.name (some .int) 2 G X post 0 0 mi ml mr dom 4 [some (.ref 0), some (.int x), some (.int (x - nI (cnt (fun j => !mgo t v j) i))), some (.int (nI i))] []) ?_ (fun i hi ih => ?_)
    · obtain ⟨i, hie⟩ : ∃ i, i = g := ⟨_, rfl⟩
      rw [← hie] at hg hL hp ⊢
      have w1 := (hG i hg).2
      have w2 := (hW.go hg).2.2.2
      refine j_iload_n dX11_led_4 rfl rfl ?_
      refine j_aload_n dX11_led_5 rfl rfl ?_
      refine gR11_20 rfl dX11_led_6 hTn ?_
      refine gI11_123 (kT0 hT) dX11_led_9 ?_
      rw [hR.goods]
      refine j_icmp_ge (tgt := 53) dX11_led_12 (by decide) (fun h12 => by exfalso; rw [nI_leI (by omega) (by omega)] at h12; omega) (fun h12 => ?_)
      refine j_aload_n dX11_led_15 rfl rfl ?_
      refine gR11_37 rfl dX11_led_16 (x_present hX) ?_
      refine j_iload_n dX11_led_19 rfl rfl ?_
      refine cV11_172 (d1 := 1) rfl dX11_led_20 (by omega) (Nat.le_of_ble_eq_true rfl) ?_
      refine c_place hX hW hG hg ?_
      refine j_aload_n dX11_led_23 rfl rfl ?_
      refine gR11_20 rfl dX11_led_24 hTn ?_
      refine gR11_160 (kT0 hT) dX11_led_27 (xT_wares hX hT) ?_
      refine j_iload_n dX11_led_30 rfl rfl ?_
      refine j_aald (C := RX1) (kT6 hT) (by decide) (fun _ => rfl) (inT (lT6 hT) (show i < 5 by omega) (by omega)) (mr_nI (by omega) (xT_g hX hT (show i < 5 by omega))) dX11_led_31 (by decide) ?_
      refine gI11_169 (kG hT (show i < 5 by omega)) dX11_led_32 ?_
      rw [(hR.go hg).2.2]
      refine j_icmp_ne (tgt := 47) dX11_led_35 (by decide) (fun h35 => absurd (by
        have q := hL.1
        unfold mgo at q
        have q2 : v (6 + i) = t 10 i := Decidable.not_not.mp (decide_eq_false_iff_not.mp q)
        rw [q2]) h35) (fun h35 => ?_)
      refine j_iload_n dX11_led_38 rfl rfl ?_
      refine j_if_ne (tgt := 44) dX11_led_39 (by decide) (fun h39 => absurd (by rw [hL.2]; exact Int32.sub_self _) h39) (fun h39 => ?_)
      refine j_iload_n dX11_led_42 rfl rfl ?_
      refine j_iret rfl dX11_led_43 ?_
      exact hp
    · have hi6 : i < t 0 6 := by omega
      have w1 := (hG i hi6).2
      have w2 := (hW.go hi6).2.2.2
      refine j_iload_n dX11_led_4 rfl rfl ?_
      refine j_aload_n dX11_led_5 rfl rfl ?_
      refine gR11_20 rfl dX11_led_6 hTn ?_
      refine gI11_123 (kT0 hT) dX11_led_9 ?_
      rw [hR.goods]
      refine j_icmp_ge (tgt := 53) dX11_led_12 (by decide) (fun h12 => by exfalso; rw [nI_leI (by omega) (by omega)] at h12; omega) (fun h12 => ?_)
      refine j_aload_n dX11_led_15 rfl rfl ?_
      refine gR11_37 rfl dX11_led_16 (x_present hX) ?_
      refine j_iload_n dX11_led_19 rfl rfl ?_
      refine cV11_172 (d1 := 1) rfl dX11_led_20 (by omega) (Nat.le_of_ble_eq_true rfl) ?_
      refine c_place hX hW hG hi6 ?_
      refine j_aload_n dX11_led_23 rfl rfl ?_
      refine gR11_20 rfl dX11_led_24 hTn ?_
      refine gR11_160 (kT0 hT) dX11_led_27 (xT_wares hX hT) ?_
      refine j_iload_n dX11_led_30 rfl rfl ?_
      refine j_aald (C := RX1) (kT6 hT) (by decide) (fun _ => rfl) (inT (lT6 hT) (show i < 5 by omega) (by omega)) (mr_nI (by omega) (xT_g hX hT (show i < 5 by omega))) dX11_led_31 (by decide) ?_
      refine gI11_169 (kG hT (show i < 5 by omega)) dX11_led_32 ?_
      rw [(hR.go hi6).2.2]
      refine j_icmp_ne (tgt := 47) dX11_led_35 (by decide) (fun h35 => ?_) (fun h35 => ?_)
      · have c1 : mgo t v i = true := decide_eq_true (fun q => h35 (by rw [q]))
        refine j_iinc1 (lv2 := [_, _, _, _]) dX11_led_47 rfl (by decide) rfl rfl ?_
        rw [nI_1]
        refine j_goto (tgt := 4) dX11_led_50 (by decide) ?_
        have c2 : cnt (fun j => !mgo t v j) (i + 1) = cnt (fun j => !mgo t v j) i := if_neg (show ¬ (!mgo t v i) = true by rw [c1]; decide)
        rw [c2] at ih
        exact ih
      · have c1 : mgo t v i = false := decide_eq_false (fun q => q ((nI_eq (by omega) (by omega)).mp h35))
        have c2 : cnt (fun j => !mgo t v j) (i + 1) = cnt (fun j => !mgo t v j) i + 1 := if_pos (show (!mgo t v i) = true by rw [c1]; rfl)
        refine j_iload_n dX11_led_38 rfl rfl ?_
        refine j_if_ne (tgt := 44) dX11_led_39 (by decide) (fun h39 => ?_) (fun h39 => ?_)
        · refine j_iincm (lv2 := [_, _, _, _]) dX11_led_44 rfl (by decide) rfl rfl ?_
          refine j_iinc1 (lv2 := [_, _, _, _]) dX11_led_47 rfl (by decide) rfl rfl ?_
          rw [nI_1]
          refine j_goto (tgt := 4) dX11_led_50 (by decide) ?_
          rw [c2] at ih
          rw [show x - nI (cnt (fun j => !mgo t v j) i) - 1 = x - nI (cnt (fun j => !mgo t v j) i + 1) from sub_s1 _ _]
          exact ih
        · exfalso
          have := cnt_lt2 (P := fun j => !mgo t v j) g i hi (show (!mgo t v i) = true by rw [c1]; rfl)
          have l5 := cnt_le (fun j => !mgo t v j) g
          have e1 := sub_0z h39
          rw [← hL.2, nI_eq (by omega) (by omega)] at e1
          omega
  rw [show cnt (fun j => !mgo t v j) 0 = 0 from rfl, show x - nI 0 = x from Int32.sub_zero _] at key
  exact key
theorem xx_led {x : Int32} (hGW : GW G) (hX : XR mr) (hT : TT T) (hTn : mr 0 2 = some T) (hW : WT t) (hR : RX mi T t) (hG : GP mi t v) (hno : ∀ g, g < t 0 6 → ¬ LED t v x g) : XCT G 8 1 6 yX11_led cX11_led 4 (some .int) [.ref 0, .int x] mi ml mr dom := by
  have w := hW.1
  refine enterX 2 (by decide) rfl rfl (fun X hdm => ?_)
  refine x_iload_n dX11_led_0 rfl rfl ?_
  refine x_istore_n (lv2 := [_, _, _, _]) dX11_led_1 rfl (by decide) rfl rfl ?_
  refine x_iconst (v := nI 0) dX11_led_2 (by decide) ?_
  refine x_istore_n (lv2 := [_, _, _, _]) dX11_led_3 rfl (by decide) rfl rfl ?_
  have key : JX cX11_led 4 yX11_led.cls yX11_led.name (some .int) 8 G X mi ml mr 1 6 mi ml mr dom 4 [some (.ref 0), some (.int x), some (.int (x - nI (cnt (fun j => !mgo t v j) 0))), some (.int (nI 0))] [] := by
    refine lq (n := t 0 6) (H := fun i => JX cX11_led 4 yX11_led.cls yX11_led.name (some .int) 8 G X mi ml mr 1 6 mi ml mr dom 4 [some (.ref 0), some (.int x), some (.int (x - nI (cnt (fun j => !mgo t v j) i))), some (.int (nI i))] []) ?_ (fun i hi ih => ?_)
    · refine x_iload_n dX11_led_4 rfl rfl ?_
      refine x_aload_n dX11_led_5 rfl rfl ?_
      refine xgR11_20 rfl dX11_led_6 hTn ?_
      refine xgI11_123 (kT0 hT) dX11_led_9 ?_
      rw [hR.goods]
      refine x_icmp_ge (tgt := 53) dX11_led_12 (by decide) (fun h12 => ?_) (fun h12 => by exfalso; rw [nI_leI (by omega) (by omega)] at h12; omega)
      exact x_throw hGW ⟨rfl, rfl, rfl⟩ (fun _ h => h) dX11_led_53 dX11_led_56 dX11_led_57 dX11_led_60 (by decide) (by decide) (by decide) hdm
    · have w1 := (hG i hi).2
      have w2 := (hW.go hi).2.2.2
      refine x_iload_n dX11_led_4 rfl rfl ?_
      refine x_aload_n dX11_led_5 rfl rfl ?_
      refine xgR11_20 rfl dX11_led_6 hTn ?_
      refine xgI11_123 (kT0 hT) dX11_led_9 ?_
      rw [hR.goods]
      refine x_icmp_ge (tgt := 53) dX11_led_12 (by decide) (fun h12 => by exfalso; rw [nI_leI (by omega) (by omega)] at h12; omega) (fun h12 => ?_)
      refine x_aload_n dX11_led_15 rfl rfl ?_
      refine xgR11_37 rfl dX11_led_16 (x_present hX) ?_
      refine x_iload_n dX11_led_19 rfl rfl ?_
      refine xcV11_172 (d1 := 1) rfl dX11_led_20 (by omega) (Nat.le_of_ble_eq_true rfl) ?_
      refine c_place hX hW hG hi ?_
      refine x_aload_n dX11_led_23 rfl rfl ?_
      refine xgR11_20 rfl dX11_led_24 hTn ?_
      refine xgR11_160 (kT0 hT) dX11_led_27 (xT_wares hX hT) ?_
      refine x_iload_n dX11_led_30 rfl rfl ?_
      refine x_aald (C := RX1) (kT6 hT) (by decide) (fun _ => rfl) (inT (lT6 hT) (show i < 5 by omega) (by omega)) (mr_nI (by omega) (xT_g hX hT (show i < 5 by omega))) dX11_led_31 (by decide) ?_
      refine xgI11_169 (kG hT (show i < 5 by omega)) dX11_led_32 ?_
      rw [(hR.go hi).2.2]
      refine x_icmp_ne (tgt := 47) dX11_led_35 (by decide) (fun h35 => ?_) (fun h35 => ?_)
      · have c1 : mgo t v i = true := decide_eq_true (fun q => h35 (by rw [q]))
        refine x_iinc1 (lv2 := [_, _, _, _]) dX11_led_47 rfl (by decide) rfl rfl ?_
        rw [nI_1]
        refine x_goto (tgt := 4) dX11_led_50 (by decide) ?_
        have c2 : cnt (fun j => !mgo t v j) (i + 1) = cnt (fun j => !mgo t v j) i := if_neg (show ¬ (!mgo t v i) = true by rw [c1]; decide)
        rw [c2] at ih
        exact ih
      · have c1 : mgo t v i = false := decide_eq_false (fun q => q ((nI_eq (by omega) (by omega)).mp h35))
        have c2 : cnt (fun j => !mgo t v j) (i + 1) = cnt (fun j => !mgo t v j) i + 1 := if_pos (show (!mgo t v i) = true by rw [c1]; rfl)
        refine x_iload_n dX11_led_38 rfl rfl ?_
        refine x_if_ne (tgt := 44) dX11_led_39 (by decide) (fun h39 => ?_) (fun h39 => ?_)
        · refine x_iincm (lv2 := [_, _, _, _]) dX11_led_44 rfl (by decide) rfl rfl ?_
          refine x_iinc1 (lv2 := [_, _, _, _]) dX11_led_47 rfl (by decide) rfl rfl ?_
          rw [nI_1]
          refine x_goto (tgt := 4) dX11_led_50 (by decide) ?_
          rw [c2] at ih
          rw [show x - nI (cnt (fun j => !mgo t v j) i) - 1 = x - nI (cnt (fun j => !mgo t v j) i + 1) from sub_s1 _ _]
          exact ih
        · exfalso
          exact hno i hi ⟨c1, sub_0z h39⟩
  rw [show cnt (fun j => !mgo t v j) 0 = 0 from rfl, show x - nI 0 = x from Int32.sub_zero _] at key
  exact key
end XLED
