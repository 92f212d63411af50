/-! ROWS of arrays and new cells; a method's entry; calls -/
section R3
variable {cc : ByteArray} {nL : Nat} {own nm : String} {rt : Option FieldType} {d : Nat} {G : GG} {X : Cx} {post : PT} {bc bs : Nat} {mi : MI} {ml : ML} {mr : MR} {dom : List Nat} {pc : Nat} {lv : List (Option Value)} {st : List Value}
theorem j_iald {a : Nat} {i : Int32} (hk : kd a = 15) (hi : vp_in i (ln a)) (hd : decode cc pc = .ok (.iaload, 1)) (kk : J cc nL own nm rt d G X post bc bs mi ml mr dom (pc + 1) lv (.int (mi a i.toNatClampNeg) :: st)) : J cc nL own nm rt d G X post bc bs mi ml mr dom pc lv (.int i :: .ref a :: st) := by
  obtain ⟨p, l, e, R, s, m, args, below, meth, c, ad0, dom0⟩ := X
  intro ok ad H locs cells slots ls hR hS hE hc2 hs hl hol hos
  obtain ⟨q, hq, hw⟩ := wl_get (G := G) (ad := ad) (mi := mi) (ml := ml) (mr := mr) (in_dom hos.t (by omega))
  rw [cel_int hk (by omega) (by omega)] at hw
  exact va_iald ok.1 ok.2.1 ok.2.2.2.2.2.1.1 hR.1 q 1 hw rfl hi hd (kk ok ad H locs cells slots ls hR hS hE hc2 hs hl hol (hos.t.t.c (okv_int _ _)))
theorem j_bald {a : Nat} {i : Int32} (hk : kd a = 14) (hi : vp_in i (ln a)) (hd : decode cc pc = .ok (.baload, 1)) (kk : J cc nL own nm rt d G X post bc bs mi ml mr dom (pc + 1) lv (.int (mi a i.toNatClampNeg) :: st)) : J cc nL own nm rt d G X post bc bs mi ml mr dom pc lv (.int i :: .ref a :: st) := by
  obtain ⟨p, l, e, R, s, m, args, below, meth, c, ad0, dom0⟩ := X
  intro ok ad H locs cells slots ls hR hS hE hc2 hs hl hol hos
  obtain ⟨q, hq, hw⟩ := wl_get (G := G) (ad := ad) (mi := mi) (ml := ml) (mr := mr) (in_dom hos.t (by omega))
  rw [cel_int hk (by omega) (by omega)] at hw
  exact va_bald ok.1 ok.2.1 ok.2.2.2.2.2.1.1 hR.1 q 0 hw rfl hi hd (kk ok ad H locs cells slots ls hR hS hE hc2 hs hl hol (hos.t.t.c (okv_int _ _)))
theorem j_lald {a : Nat} {i : Int32} (hk : kd a = 16) (hi : vp_in i (ln a)) (hd : decode cc pc = .ok (.laload, 1)) (kk : J cc nL own nm rt d G X post bc bs mi ml mr dom (pc + 1) lv (.long (ml a i.toNatClampNeg) :: st)) : J cc nL own nm rt d G X post bc bs mi ml mr dom pc lv (.int i :: .ref a :: st) := by
  obtain ⟨p, l, e, R, s, m, args, below, meth, c, ad0, dom0⟩ := X
  intro ok ad H locs cells slots ls hR hS hE hc2 hs hl hol hos
  obtain ⟨q, hq, hw⟩ := wl_get (G := G) (ad := ad) (mi := mi) (ml := ml) (mr := mr) (in_dom hos.t (by omega))
  rw [cel_long hk] at hw
  exact va_lald ok.1 ok.2.1 ok.2.2.2.2.2.1.1 hR.1 q 2 hw rfl hi hd (kk ok ad H locs cells slots ls hR hS hE hc2 hs hl hol (hos.t.t.c (okv_long _ _)))
theorem j_aald {a b k : Nat} {i : Int32} {C : String} (hk : kd a = k) (h17 : 17 ≤ k) (ht : ∀ G : GG, (gty G)[k - 14]? = some (G.2.1 k, .object C)) (hi : vp_in i (ln a)) (hb : mr a i.toNatClampNeg = some b) (hd : decode cc pc = .ok (.aaload, 1)) (h99 : k ≠ 99) (kk : J cc nL own nm rt d G X post bc bs mi ml mr dom (pc + 1) lv (.ref b :: st)) : J cc nL own nm rt d G X post bc bs mi ml mr dom pc lv (.int i :: .ref a :: st) := by
  obtain ⟨p, l, e, R, s, m, args, below, meth, c, ad0, dom0⟩ := X
  intro ok ad H locs cells slots ls hR hS hE hc2 hs hl hol hos
  have ha : a ∈ dom := in_dom hos.t (by omega)
  obtain ⟨q, hq, hw⟩ := wl_get (G := G) (ad := ad) (mi := mi) (ml := ml) (mr := mr) ha
  rw [cel_ref hk h17] at hw
  refine va_aldq ok.1 ok.2.1 ok.2.2.2.2.2.1.1 hR.1 q (k - 14) hw (ht G) hi hd ?_
  simp only [hb]
  exact kk ok ad H locs cells slots ls hR hS hE hc2 hs hl hol (hos.t.t.c (fun n hn => by cases hn; exact hR.2.2.1 a ha _ b hb))
theorem j_iast {a : Nat} {i x : Int32} (hk : kd a = 15) (hi : vp_in i (ln a)) (hd : decode cc pc = .ok (.iastore, 1)) (kk : J cc nL own nm rt d G X post bc bs (up mi a i.toNatClampNeg x) ml mr dom (pc + 1) lv st) : J cc nL own nm rt d G X post bc bs mi ml mr dom pc lv (.int x :: .int i :: .ref a :: st) := by
  obtain ⟨p, l, e, R, s, m, args, below, meth, c, ad0, dom0⟩ := X
  intro ok ad H locs cells slots ls hR hS hE hc2 hs hl hol hos
  have ha : a ∈ dom := in_dom hos.t.t (by omega)
  obtain ⟨q, hq, hw⟩ := wl_get (G := G) (ad := ad) (mi := mi) (ml := ml) (mr := mr) ha
  rw [cel_int hk (by omega) (by omega)] at hw
  refine va_iast ok.1 ok.2.1 ok.2.2.2.2.2.1.1 hR.1 hR.2.1 hS q 1 hw rfl hi hd (fun H1 locs1 hP1 hD1 hS1 => ?_)
  rw [wl_set (mi2 := up mi a i.toNatClampNeg x) hR.2.1 hq (by rw [cel_int hk (by omega) (by omega), up_row]) (fun n hn => cel_congr (up_off _ _ hn) rfl rfl)] at hP1 hD1
  exact kk ok ad H1 locs1 cells slots ls ⟨hP1, hD1, hR.2.2⟩ hS1 hE hc2 hs hl hol hos.t.t.t
theorem j_bast {a : Nat} {i x : Int32} (hk : kd a = 14) (hi : vp_in i (ln a)) (hd : decode cc pc = .ok (.bastore, 1)) (kk : J cc nL own nm rt d G X post bc bs (up mi a i.toNatClampNeg x.toInt8.toInt32) ml mr dom (pc + 1) lv st) : J cc nL own nm rt d G X post bc bs mi ml mr dom pc lv (.int x :: .int i :: .ref a :: st) := by
  obtain ⟨p, l, e, R, s, m, args, below, meth, c, ad0, dom0⟩ := X
  intro ok ad H locs cells slots ls hR hS hE hc2 hs hl hol hos
  have ha : a ∈ dom := in_dom hos.t.t (by omega)
  obtain ⟨q, hq, hw⟩ := wl_get (G := G) (ad := ad) (mi := mi) (ml := ml) (mr := mr) ha
  rw [cel_int hk (by omega) (by omega)] at hw
  refine va_bast ok.1 ok.2.1 ok.2.2.2.2.2.1.1 hR.1 hR.2.1 hS q 0 hw rfl hi hd (fun H1 locs1 hP1 hD1 hS1 => ?_)
  rw [vp_nar_byte] at hP1 hD1
  rw [wl_set (mi2 := up mi a i.toNatClampNeg x.toInt8.toInt32) hR.2.1 hq (by rw [cel_int hk (by omega) (by omega), up_row]) (fun n hn => cel_congr (up_off _ _ hn) rfl rfl)] at hP1 hD1
  exact kk ok ad H1 locs1 cells slots ls ⟨hP1, hD1, hR.2.2⟩ hS1 hE hc2 hs hl hol hos.t.t.t
theorem j_last {a : Nat} {i : Int32} {x : Int64} (hk : kd a = 16) (hi : vp_in i (ln a)) (hd : decode cc pc = .ok (.lastore, 1)) (kk : J cc nL own nm rt d G X post bc bs mi (upl ml a i.toNatClampNeg x) mr dom (pc + 1) lv st) : J cc nL own nm rt d G X post bc bs mi ml mr dom pc lv (.long x :: .int i :: .ref a :: st) := by
  obtain ⟨p, l, e, R, s, m, args, below, meth, c, ad0, dom0⟩ := X
  intro ok ad H locs cells slots ls hR hS hE hc2 hs hl hol hos
  have ha : a ∈ dom := in_dom hos.t.t (by omega)
  obtain ⟨q, hq, hw⟩ := wl_get (G := G) (ad := ad) (mi := mi) (ml := ml) (mr := mr) ha
  rw [cel_long hk] at hw
  refine va_last ok.1 ok.2.1 ok.2.2.2.2.2.1.1 hR.1 hR.2.1 hS q 2 hw rfl hi hd (fun H1 locs1 hP1 hD1 hS1 => ?_)
  rw [wl_set (ml2 := upl ml a i.toNatClampNeg x) hR.2.1 hq (by rw [cel_long hk, upl_row]) (fun n hn => cel_congr rfl (upl_off _ _ hn) rfl)] at hP1 hD1
  exact kk ok ad H1 locs1 cells slots ls ⟨hP1, hD1, hR.2.2⟩ hS1 hE hc2 hs hl hol hos.t.t.t
theorem j_alenI {a : Nat} {v : Int32} (hk : kd a = 15) (hv : Int32.ofNat (ln a) = v) (hd : decode cc pc = .ok (.arraylength, 1)) (kk : J cc nL own nm rt d G X post bc bs mi ml mr dom (pc + 1) lv (.int v :: st)) : J cc nL own nm rt d G X post bc bs mi ml mr dom pc lv (.ref a :: st) := by
  obtain ⟨p, l, e, R, s, m, args, below, meth, c, ad0, dom0⟩ := X
  intro ok ad H locs cells slots ls hR hS hE hc2 hs hl hol hos
  obtain ⟨q, hq, hw⟩ := wl_get (G := G) (ad := ad) (mi := mi) (ml := ml) (mr := mr) (in_dom hos (by omega))
  rw [cel_int hk (by omega) (by omega)] at hw
  exact va_alen ok.1 ok.2.1 ok.2.2.2.2.2.1.1 hR.1 q 1 hw (ty := .int) rfl hv hd (kk ok ad H locs cells slots ls hR hS hE hc2 hs hl hol (hos.t.c (okv_int _ _)))
theorem j_alenB {a : Nat} {v : Int32} (hk : kd a = 14) (hv : Int32.ofNat (ln a) = v) (hd : decode cc pc = .ok (.arraylength, 1)) (kk : J cc nL own nm rt d G X post bc bs mi ml mr dom (pc + 1) lv (.int v :: st)) : J cc nL own nm rt d G X post bc bs mi ml mr dom pc lv (.ref a :: st) := by
  obtain ⟨p, l, e, R, s, m, args, below, meth, c, ad0, dom0⟩ := X
  intro ok ad H locs cells slots ls hR hS hE hc2 hs hl hol hos
  obtain ⟨q, hq, hw⟩ := wl_get (G := G) (ad := ad) (mi := mi) (ml := ml) (mr := mr) (in_dom hos (by omega))
  rw [cel_int hk (by omega) (by omega)] at hw
  exact va_alen ok.1 ok.2.1 ok.2.2.2.2.2.1.1 hR.1 q 0 hw (ty := .byte) rfl hv hd (kk ok ad H locs cells slots ls hR hS hE hc2 hs hl hol (hos.t.c (okv_int _ _)))
/-! the entry -/
def ent : List Value → List (Option Value)
  | [] => []
  | v :: vs => some v :: (if v.category = 2 then none :: ent vs else ent vs)
theorem ent_get (ad : Nat → Nat) (vs : List Value) : ∀ (i k : Nat) (w : Value), (ent vs)[k]? = some (some w) → (i + k, rn ad w) ∈ lv_args i (vs.map (rn ad)) := by
  induction vs with
  | nil => intro i k w h; simp [ent] at h
  | cons v vs ih =>
    intro i k w h
    simp only [List.map_cons, lv_args, rn_cat]
    cases k with
    | zero =>
      simp only [ent, List.getElem?_cons_zero, Option.some.injEq] at h
      subst h; exact List.mem_cons_self
    | succ k =>
      simp only [ent, List.getElem?_cons_succ] at h
      refine List.mem_cons_of_mem _ ?_
      by_cases hc : v.category = 2
      · rw [if_pos hc] at h ⊢
        cases k with
        | zero => simp at h
        | succ k =>
          simp only [List.getElem?_cons_succ] at h
          have := ih (i + 2) k w h
          rwa [show i + 2 + k = i + (k + 1 + 1) by omega] at this
      · rw [if_neg hc] at h ⊢
        have := ih (i + 1) k w h
        rwa [show i + 1 + k = i + (k + 1) by omega] at this
theorem ent_len (ad : Nat → Nat) (vs : List Value) : (lg_sl (vs.map (rn ad))).length = (ent vs).length := by
  induction vs with
  | nil => rfl
  | cons v vs ih =>
    simp only [lg_sl, List.map_cons, List.flatMap_cons, List.length_append, rn_cat, ent, List.length_cons] at ih ⊢
    by_cases hc : v.category = 2
    · simp only [if_pos hc, List.length_cons, List.length_nil] at ih ⊢; omega
    · simp only [if_neg hc, List.length_cons, List.length_nil] at ih ⊢; omega
theorem ent_ok {dom : List Nat} {vs : List Value} (h : oks dom vs) : ∀ v, some v ∈ ent vs → okv dom v := by
  induction vs with
  | nil => intro v hv; cases hv
  | cons v vs ih =>
    intro w hw
    rcases List.mem_cons.mp hw with hw | hw
    · cases hw; exact h.h
    · by_cases hc : v.category = 2
      · rw [if_pos hc] at hw
        rcases List.mem_cons.mp hw with hw | hw
        · cases hw
        · exact ih h.t w hw
      · rw [if_neg hc] at hw; exact ih h.t w hw
/-- a method's contract out of its body's walk -/
theorem enter {mc ms : Nat} {y : MethodName} {args : List Value} {lv0 : List (Option Value)} (k : Nat) (hy : plainName y.cls = true) (hlv : ent args ++ List.replicate k none = lv0) (hlen : lv0.length = nL) (body : ∀ X : Cx, J cc nL y.cls y.name rt d G X post mc ms mi ml mr dom 0 lv0 []) : CT G d mc ms y cc nL rt args mi ml mr dom post := by
  intro l ad
  refine Met.ofW (cc := cc) (maxL := nL) (ret := rt) hy rfl ?_
  intro p e s m args' below meth c s₁ B hml hv
  obtain ⟨rfl, hoks, hRel, hSl, hKN⟩ := hv
  have hts := atoms_spec (ws := .code y cc nL rt :: wtbl) B.pre
  have hok : OkX cc nL y.cls y.name rt d G (p, l, e, rmx d mc ms, s, m, (args.map (rn ad)).toArray, below, meth, c, ad, dom) :=
    ⟨B.exec, B.bytes, hml, findClass_of_methodNamed B.named, fun w hw => hts w (List.mem_cons_of_mem _ hw), hKN, B.notSynchronized, B.returns, (name_of_methodNamed B.named B.method).1, rfl, rfl⟩
  have hl2 := ent_len ad args
  have hlen2 : (ent args).length ≤ nL := by rw [← hlen, ← hlv]; simp
  have hl := lv_entry (args.map (rn ad)) (n := nL) (by rw [hl2]; exact hlen2)
  rw [lg_entry_eq]
  refine body (p, l, e, rmx d mc ms, s, m, (args.map (rn ad)).toArray, below, meth, c, ad, dom) hok ad s.heap [] 0 0 _ hRel hSl (fun n hn => ⟨hn, rfl⟩) (by simp) (by simp) ⟨hl.1, hl.2.1, fun q hq => ?_⟩ (fun v hv => ?_) (fun v hv => by cases hv)
  · obtain ⟨w, h1, h2⟩ := lvl_inv hq
    rw [← hlv] at h1
    have h3 : (ent args)[q.1]? = some (some w) := by
      by_cases hlt : q.1 < (ent args).length
      · rwa [List.getElem?_append_left hlt] at h1
      · rw [List.getElem?_append_right (by omega)] at h1
        have := List.eq_of_mem_replicate (List.mem_of_getElem? h1)
        cases this
    have h4 := hl.2.2 _ (ent_get ad args 0 q.1 w h3)
    rw [Nat.zero_add] at h4
    rw [h2]; exact h4
  · rw [← hlv] at hv
    rcases List.mem_append.mp hv with h | h
    · exact ent_ok hoks v h
    · have := List.eq_of_mem_replicate h
      cases this
/-! calls -/
theorem rn_eq {dom dom' : List Nat} {ad ad' : Nat → Nat} (hl : ∀ n, lit n → ad' n = ad n) (h : ∀ n ∈ dom, n ∈ dom' ∧ ad' n = ad n) {v : Value} (hv : okv dom v) : rn ad' v = rn ad v := by
  cases v with
  | ref n =>
    have : ad' n = ad n := by
      rcases hv n rfl with q | q
      · exact (h n q).2
      · exact hl n q
    simp only [rn, this]
  | _ => rfl
theorem okv.up {dom dom' : List Nat} (h : ∀ n ∈ dom, n ∈ dom') {v : Value} (hv : okv dom v) : okv dom' v := fun n hn => (hv n hn).elim (fun q => Or.inl (h n q)) Or.inr
theorem Px_blind {ad : Nat → Nat} {args : List Value} : FrameBlind (Px G ad args mi ml mr dom) := by
  intro a U g mk h
  obtain ⟨h1, h2, h3, h4, h5, h6, h7, h8⟩ := h
  have hv : U.vm.Alike (U.calling g mk a).vm := Vm.Alike.refl U.vm
  exact ⟨h1, h2, h3, h4, va_K.moved hv h5, h7 U (U.calling g mk a) (State.WarmedH.refl U) h6, h7, h8⟩
/-- what a call asks of the words and of the room -/
theorem j_run {d' mc' ms' nL' : Nat} {y : MethodName} {cc' : ByteArray} {rt' : Option FieldType} {p : Program} {l : Launch} {e : Env} {R : Room} {s : State} {m : MethodId} {args : Array Value} {below : List Frame} {meth : Method} {c : Code} {ad0 ad : Nat → Nat} {dom0 : List Nat} {H : Heap} {locs : List Loc} {cells slots : Nat} {ls : Array Slot} {Aw : Array Value} {st0 : List Value} {mi' : MI}
    (hrun : va_Run p l e R s m args below meth c H locs cells slots mc' ms' (F0 m pc ls st0) (st.map (rn ad)) (Qx G ad dom (fun v mi' ml' mr' dom' => J cc nL own nm rt d G (p, l, e, R, s, m, args, below, meth, c, ad0, dom0) post (bc - mc') (bs - ms') mi' ml' mr' dom' (pc + 3) lv (vst v st)) Aw) (gA G))
    (ok : OkX cc nL own nm rt d G (p, l, e, R, s, m, args, below, meth, c, ad0, dom0)) (hR : Rel G ad mi ml mr dom H) (hS : va_S (gA G) G.2.2.1 H locs) (hE : ∀ n ∈ dom0, n ∈ dom ∧ ad n = ad0 n) (hc : cells + bc ≤ R.cells) (hs : slots + bs ≤ R.slots) (hl : LH ad ls nL lv) (hol : okl dom lv) (hos : oks dom st) (hmc : mc' ≤ bc) (hms : ms' ≤ bs) :
    W p l e R s m args below meth c H locs cells slots (MQ below (Qx G ad0 dom0 post) args s R.cells R.slots (gA G)) (F0 m pc ls st0) := by
  intro T hT X
  obtain ⟨v, st₀, t, T', L, h0, X', hL, e1, e2, ⟨w, mi2, ml2, mr2, dom2, ad2, hv, hp, hR2, hS2, hvo, hE2⟩, st2⟩ := hrun T hT X
  have hlit : ∀ n, lit n → ad2 n = ad n := fun n hn => (hR2.2.2.2.1 n hn).trans (hR.2.2.2.1 n hn).symm
  have hvw : v = w.map (rn ad2) := by injection hv
  have hst : (vst w st).map (rn ad2) = v.toList ++ st.map (rn ad) := by
    have h1 : st.map (rn ad2) = st.map (rn ad) := List.map_congr_left (fun x hx => rn_eq hlit hE2 (hos x hx))
    rw [hvw]
    cases w with
    | none => simpa using h1
    | some w => simpa using h1
  have hlv2 : LH ad2 ls nL lv := by
    refine ⟨hl.1, hl.2.1, fun q hq => ?_⟩
    obtain ⟨x, g1, g2⟩ := lvl_inv hq
    rw [g2, rn_eq hlit hE2 (hol.at g1)]
    exact hl.get g1
  have hS3 : va_S (gA G) G.2.2.1 T'.heap (locs ++ L) := by
    rw [e1]
    exact ⟨hS2.1, hS2.2.1, fun q hq => (List.mem_append.mp hq).elim (hS.2.2 q) (hL q)⟩
  have hk := hp ok ad2 T'.heap (locs ++ L) (cells + mc') (slots + ms') ls (by rw [e1]; exact hR2) hS3 (fun n hn => ⟨(hE2 n (hE n hn).1).1, ((hE2 n (hE n hn).1).2).trans (hE n hn).2⟩) (by omega) (by omega) hlv2 (fun x hx => (hol x hx).up (fun n hn => (hE2 n hn).1))
    (fun x hx => by
      cases w with
      | none => exact (hos x hx).up (fun n hn => (hE2 n hn).1)
      | some w =>
        rcases List.mem_cons.mp hx with rfl | hx
        · exact hvo _ rfl
        · exact (hos x hx).up (fun n hn => (hE2 n hn).1))
  rw [hst] at hk
  obtain ⟨t2, a1, b1⟩ := hk T' rfl X'
  exact ⟨t2, st2 t2 a1, b1⟩
theorem j_pre {ad : Nat → Nat} {As : List Value} {s : State} {H : Heap} (hKN : KN G s) (hR : Rel G ad mi ml mr dom H) {locs : List Loc} (hS : va_S (gA G) G.2.2.1 H locs) (hos : oks dom As) : ∀ U : State, U.heap = H → s.WarmedH U.vm → Px G ad As mi ml mr dom (As.map (rn ad)).toArray U := by
  intro U hU hW
  refine ⟨rfl, hos, by rw [hU]; exact hR, by rw [hU]; exact ⟨hS.1, hS.2.1, fun _ h => by cases h⟩, va_K.moved hW.alike hKN.1, hKN.2.2.1 s U hW hKN.2.1, hKN.2.2⟩
theorem j_callB {d' mc' ms' nL' index n : Nat} {y : MethodName} {cc' : ByteArray} {rt' : Option FieldType} {R : Room} {s : State} {args : Array Value} (hts : ∀ w ∈ wtbl, w.before args s = true) (hini : Cond.initialized y.cls ∈ wtbl) (hlink : Cond.methodLink own index y ∈ wtbl) (hcode : Cond.code y cc' nL' rt' ∈ wtbl) (hy : y.cls ≠ "java/lang/invoke/MethodHandle" ∧ y.cls ≠ "java/lang/invoke/VarHandle" ∧ (parseMethodDescriptor y.desc).map (fun d => d.parameters.length) = some n) (hdd : d' + 1 ≤ R.frames) (hll : 8 + (nL' + 11) + 64 * d' ≤ R.locals) :
    CallB R s args own index y cc' nL' rt' (.code y cc' nL' rt' :: wtbl) (rmx d' mc' ms') mc' ms' n :=
  callB_of n hts (fun w hw => by
    rcases List.mem_cons.mp hw with rfl | hw
    · exact wtbl_good _ hcode
    · exact wtbl_good _ hw) rfl rfl rfl (hts _ hini) (hts _ hlink) hy ⟨hdd, hll⟩
/-- a virtual call of a method of the receiver's own class -/
theorem j_callV {k N d' mc' ms' nL' index n b : Nat} {T : u_T} {y : MethodName} {cc' : ByteArray} {rt' : Option FieldType} {As : List Value} {stk : List Value} (hk : kd b = k) (h14 : k < 14) (hc : vwCl[k]? = some (y.cls, T, N)) (hini : Cond.initialized y.cls ∈ wtbl) (hlink : Cond.methodLink own index y ∈ wtbl) (hinst : Cond.instanceMethod y ∈ wtbl) (hsel : Cond.selects y.cls y y ∈ wtbl) (hcode : Cond.code y cc' nL' rt' ∈ wtbl)
    (hy : y.cls ≠ "java/lang/invoke/MethodHandle" ∧ y.cls ≠ "java/lang/invoke/VarHandle" ∧ (parseMethodDescriptor y.desc).map (fun d => d.parameters.length) = some n) (hn : As.length = n) (hnl : nL' ≤ 45) (hd : decode cc pc = .ok (.invokevirtual index, 3)) (hdd : d' + 1 ≤ d) (hmc : mc' ≤ bc) (hms : ms' ≤ bs) (hst : (st.map fun v => v.category).sum ≤ 8) (hstk : stk = As.reverse ++ .ref b :: st)
    (ct : CT G d' mc' ms' y cc' nL' rt' (.ref b :: As) mi ml mr dom (fun v mi' ml' mr' dom' => J cc nL own nm rt d G X post (bc - mc') (bs - ms') mi' ml' mr' dom' (pc + 3) lv (vst v st))) : J cc nL own nm rt d G X post bc bs mi ml mr dom pc lv stk := by
  subst hstk
  obtain ⟨p, l, e, R, s, m, args, below, meth, c, ad0, dom0⟩ := X
  intro ok ad H locs cells slots ls hR hS hE hc2 hs hl hol hos
  have hosr : oks dom st := fun v hv => hos v (List.mem_append_right _ (List.mem_cons_of_mem _ hv))
  have hosa : oks dom (.ref b :: As) := fun v hv => by
    rcases List.mem_cons.mp hv with rfl | hv
    · exact hos _ (List.mem_append_right _ List.mem_cons_self)
    · exact hos _ (List.mem_append_left _ (List.mem_reverse.mpr hv))
  obtain ⟨q, hq, hw⟩ := wl_get (G := G) (ad := ad) (mi := mi) (ml := ml) (mr := mr) (in_dom hosa (by omega))
  rw [cel_obj hk h14] at hw
  have hkn : KN G s := ok.2.2.2.2.2.1
  refine j_run (mc' := mc') (ms' := ms') (d' := d') (nL' := nL') (y := y) (cc' := cc') (rt' := rt') (mi' := mi) (va_runV (C := y.cls) (b := ad b) (As := As.map (rn ad)) (n := n) (nL := nL) ⟨ok.1, ok.2.1, ok.2.2.1, ok.2.2.2.1, ok.2.2.2.2.1⟩ (ct l ad) ⟨j_callB ok.2.2.2.2.1 hini hlink hcode hy (by rw [ok.2.2.2.2.2.2.2.2.2.1]; exact hdd) (by rw [ok.2.2.2.2.2.2.2.2.2.2]; omega), ok.2.2.2.2.1 _ hinst, ok.2.2.2.2.1 _ hsel⟩ ⟨Px_blind, va_recv hkn.1 hR.1 hc hw, j_pre hkn hR hS hosa⟩ rfl (by simpa using hn) hl.1 (by simp [rn]) ?_ hd ⟨by omega, by omega⟩) ok hR hS hE hc2 hs hl hol hosr hmc hms
  exact lv_room (by rw [rn_cats]; exact hst)
theorem j_callS {d' mc' ms' nL' index n : Nat} {y : MethodName} {cc' : ByteArray} {rt' : Option FieldType} {As : List Value} {stk : List Value} (hini : Cond.initialized y.cls ∈ wtbl) (hlink : Cond.methodLink own index y ∈ wtbl) (hstat : Cond.static y ∈ wtbl) (hcode : Cond.code y cc' nL' rt' ∈ wtbl)
    (hy : y.cls ≠ "java/lang/invoke/MethodHandle" ∧ y.cls ≠ "java/lang/invoke/VarHandle" ∧ (parseMethodDescriptor y.desc).map (fun d => d.parameters.length) = some n) (hn : As.length = n) (hnl : nL' ≤ 45) (hd : decode cc pc = .ok (.invokestatic index, 3)) (hdd : d' + 1 ≤ d) (hmc : mc' ≤ bc) (hms : ms' ≤ bs) (hst : (st.map fun v => v.category).sum ≤ 8) (hstk : stk = As.reverse ++ st)
    (ct : CT G d' mc' ms' y cc' nL' rt' As mi ml mr dom (fun v mi' ml' mr' dom' => J cc nL own nm rt d G X post (bc - mc') (bs - ms') mi' ml' mr' dom' (pc + 3) lv (vst v st))) : J cc nL own nm rt d G X post bc bs mi ml mr dom pc lv stk := by
  subst hstk
  obtain ⟨p, l, e, R, s, m, args, below, meth, c, ad0, dom0⟩ := X
  intro ok ad H locs cells slots ls hR hS hE hc2 hs hl hol hos
  have hosr : oks dom st := fun v hv => hos v (List.mem_append_right _ hv)
  have hosa : oks dom As := fun v hv => hos _ (List.mem_append_left _ (List.mem_reverse.mpr hv))
  have hkn : KN G s := ok.2.2.2.2.2.1
  refine j_run (mc' := mc') (ms' := ms') (d' := d') (nL' := nL') (y := y) (cc' := cc') (rt' := rt') (mi' := mi) (va_runS (As := As.map (rn ad)) (n := n) (nL := nL) ⟨ok.1, ok.2.1, ok.2.2.1, ok.2.2.2.1, ok.2.2.2.2.1⟩ (ct l ad) ⟨j_callB ok.2.2.2.2.1 hini hlink hcode hy (by rw [ok.2.2.2.2.2.2.2.2.2.1]; exact hdd) (by rw [ok.2.2.2.2.2.2.2.2.2.2]; omega), ok.2.2.2.2.1 _ hstat⟩ ⟨Px_blind, j_pre hkn hR hS hosa⟩ rfl (by simpa using hn) hl.1 (by simp) ?_ hd ⟨by omega, by omega⟩) ok hR hS hE hc2 hs hl hol hosr hmc hms
  exact lv_room (by rw [rn_cats]; exact hst)
theorem j_callI {d' mc' ms' nL' index n b : Nat} {y : MethodName} {cc' : ByteArray} {As : List Value} {stk : List Value} (hini : Cond.initialized y.cls ∈ wtbl) (hlink : Cond.methodLink own index y ∈ wtbl) (hinst : Cond.instanceMethod y ∈ wtbl) (hcode : Cond.code y cc' nL' none ∈ wtbl) (hyn : y.name = "<init>")
    (hy : y.cls ≠ "java/lang/invoke/MethodHandle" ∧ y.cls ≠ "java/lang/invoke/VarHandle" ∧ (parseMethodDescriptor y.desc).map (fun d => d.parameters.length) = some n) (hn : As.length = n) (hnl : nL' ≤ 45) (hd : decode cc pc = .ok (.invokespecial index, 3)) (hdd : d' + 1 ≤ d) (hmc : mc' ≤ bc) (hms : ms' ≤ bs) (hst : (st.map fun v => v.category).sum ≤ 8) (hstk : stk = As.reverse ++ .ref b :: st)
    (ct : CT G d' mc' ms' y cc' nL' none (.ref b :: As) mi ml mr dom (fun v mi' ml' mr' dom' => J cc nL own nm rt d G X post (bc - mc') (bs - ms') mi' ml' mr' dom' (pc + 3) lv (vst v st))) : J cc nL own nm rt d G X post bc bs mi ml mr dom pc lv stk := by
  subst hstk
  obtain ⟨p, l, e, R, s, m, args, below, meth, c, ad0, dom0⟩ := X
  intro ok ad H locs cells slots ls hR hS hE hc2 hs hl hol hos
  have hosr : oks dom st := fun v hv => hos v (List.mem_append_right _ (List.mem_cons_of_mem _ hv))
  have hosa : oks dom (.ref b :: As) := fun v hv => by
    rcases List.mem_cons.mp hv with rfl | hv
    · exact hos _ (List.mem_append_right _ List.mem_cons_self)
    · exact hos _ (List.mem_append_left _ (List.mem_reverse.mpr hv))
  have hkn : KN G s := ok.2.2.2.2.2.1
  refine j_run (mc' := mc') (ms' := ms') (d' := d') (nL' := nL') (y := y) (cc' := cc') (rt' := none) (mi' := mi) (va_runI (b := ad b) (As := As.map (rn ad)) (n := n) (nL := nL) ⟨ok.1, ok.2.1, ok.2.2.1, ok.2.2.2.1, ok.2.2.2.2.1⟩ (ct l ad) ⟨j_callB ok.2.2.2.2.1 hini hlink hcode hy (by rw [ok.2.2.2.2.2.2.2.2.2.1]; exact hdd) (by rw [ok.2.2.2.2.2.2.2.2.2.2]; omega), hyn, ok.2.2.2.2.1 _ hinst⟩ ⟨Px_blind, j_pre hkn hR hS hosa⟩ rfl (by simpa using hn) hl.1 (by simp [rn]) ?_ hd ⟨by omega, by omega⟩) ok hR hS hE hc2 hs hl hol hosr hmc hms
  exact lv_room (by rw [rn_cats]; exact hst)
end R3
