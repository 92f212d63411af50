/-! the law: its script, its cases -/
def SCX (X : Cx) (G : GG) (L : Nat) (xs : Nat → Int32) : Prop := match X with
  | (_, _, _, _, s, _, _, _, _, _, _, _) => va_X (G.2.2.2.1 598) L xs s G.2.2.1 ∧ G.2.2.2.1 598 < G.2.2.1.size
section LAW
variable {cc : ByteArray} {nL d : Nat} {own nm : String} {rt : Option FieldType} {G : GG} {X : Cx} {post : PT} {bc bs : Nat} {mi : MI} {ml : ML} {mr : MR} {dom : List Nat} {pc : Nat} {lv : List (Option Value)} {st : List Value} {a b c : Nat} {L : Nat} {xs : Nat → Int32}
theorem j_sld {i : Int32} (hx : SCX X G L xs) (hin : vp_in i L) (hd : decode cc pc = .ok (.iaload, 1)) (kk : J cc nL own nm rt d G X post bc bs mi ml mr dom (pc + 1) lv (.int (xs i.toNatClampNeg) :: st)) : J cc nL own nm rt d G X post bc bs mi ml mr dom pc lv (.int i :: .ref 598 :: st) := by
  obtain ⟨p, l, e, R, s, m, args, below, meth, c, ad0, dom0⟩ := X
  obtain ⟨h1, h2⟩ := hx
  intro ok ad H locs cells slots ls hR hS hE hc2 hs hl hol hos
  have e : ad 598 = G.2.2.2.1 598 := hR.2.2.2.1 598 ⟨by decide, by decide⟩
  have r := va_sld (A := gA G) ok.1 ok.2.1 h1 h2 (fun q => Nat.not_le.mpr h2 q) hS hin hd (kk ok ad H locs cells slots ls hR hS hE hc2 hs hl hol (hos.t.t.c (okv_int _ _)))
  rw [← e] at r
  exact r
theorem j_slen (hx : SCX X G L xs) (hd : decode cc pc = .ok (.arraylength, 1)) (kk : J cc nL own nm rt d G X post bc bs mi ml mr dom (pc + 1) lv (.int (nI L) :: st)) : J cc nL own nm rt d G X post bc bs mi ml mr dom pc lv (.ref 598 :: st) := by
  obtain ⟨p, l, e, R, s, m, args, below, meth, c, ad0, dom0⟩ := X
  obtain ⟨h1, h2⟩ := hx
  intro ok ad H locs cells slots ls hR hS hE hc2 hs hl hol hos
  have e : ad 598 = G.2.2.2.1 598 := hR.2.2.2.1 598 ⟨by decide, by decide⟩
  have r := va_slen (A := gA G) ok.1 ok.2.1 h1 h2 (fun q => Nat.not_le.mpr h2 q) hS hd (kk ok ad H locs cells slots ls hR hS hE hc2 hs hl hol (hos.t.c (okv_int _ _)))
  rw [← e] at r
  exact r
theorem j_less {bc2 bs2 : Nat} (h1 : bc2 ≤ bc) (h2 : bs2 ≤ bs) (k : J cc nL own nm rt d G X post bc2 bs2 mi ml mr dom pc lv st) : J cc nL own nm rt d G X post bc bs mi ml mr dom pc lv st := by
  obtain ⟨p, l, e, R, s, m, args, below, meth, c, ad0, dom0⟩ := X
  intro ok ad H locs cells slots ls hR hS hE hc2 hs hl hol hos
  exact k ok ad H locs cells slots ls hR hS hE (by omega) (by omega) hl hol hos
theorem j_forget {w0 w1 w2 w3 w4 w5 w6 : Option Value} (k : J cc nL own nm rt d G X post bc bs mi ml mr dom pc [w0, w1, w2, w3, w4, none, none] st) : J cc nL own nm rt d G X post bc bs mi ml mr dom pc [w0, w1, w2, w3, w4, w5, w6] st := by
  obtain ⟨p, l, e, R, s, m, args, below, meth, c, ad0, dom0⟩ := X
  intro ok ad H locs cells slots ls hR hS hE hc2 hs hl hol hos
  refine k ok ad H locs cells slots ls hR hS hE hc2 hs ⟨hl.1, hl.2.1, fun q hq => hl.2.2 q ?_⟩ (fun v hv => hol v ?_) hos
  · obtain ⟨x9, g1, g2⟩ := lvl_inv hq
    have g3 : [w0, w1, w2, w3, w4, w5, w6][q.1]? = some (some x9) := by
      obtain ⟨q1, q2⟩ := q
      match q1, g1 with
      | 0, g1 => exact g1
      | 1, g1 => exact g1
      | 2, g1 => exact g1
      | 3, g1 => exact g1
      | 4, g1 => exact g1
      | 5, g1 => cases g1
      | 6, g1 => cases g1
      | n + 7, g1 => cases g1
    have := lvl_mem (ad := ad) g3
    rw [← g2] at this
    exact this
  · simp only [List.mem_cons, List.not_mem_nil, or_false] at hv ⊢
    rcases hv with h | h | h | h | h | h | h
    · exact Or.inl h
    · exact Or.inr (Or.inl h)
    · exact Or.inr (Or.inr (Or.inl h))
    · exact Or.inr (Or.inr (Or.inr (Or.inl h)))
    · exact Or.inr (Or.inr (Or.inr (Or.inr (Or.inl h))))
    · cases h
    · cases h
theorem eVL_19 {x0 : Int32} {x1 : Int32} {x2 : Int32} {x3 : Int32} {x4 : Int32} (hk : kd b = 11) (hd : decode cc pc = .ok (.invokevirtual 19, 3)) (h15 : 15 ≤ d) (hst : (st.map fun v => v.category).sum ≤ 8) (ce : CE G yX11_feed cX11_feed 6 (some .int) [.ref b, .int x0, .int x1, .int x2, .int x3, .int x4] mi ml mr dom (fun v mi ml mr dom => J cc nL RL nm rt d G X post bc bs mi ml mr dom (pc + 3) lv (vst v st))) : J cc nL RL nm rt d G X post bc bs mi ml mr dom pc lv (.int x4 :: .int x3 :: .int x2 :: .int x1 :: .int x0 :: .ref b :: st) := by
  obtain ⟨d1, h1, ct⟩ := ce
  exact cVL_19 hk hd (by omega) hst ct
theorem eVL_24 {x0 : Int32} (hk : kd b = 11) (hd : decode cc pc = .ok (.invokevirtual 24, 3)) (h15 : 15 ≤ d) (hst : (st.map fun v => v.category).sum ≤ 8) (ce : CE G yX11_town cX11_town 3 (some .int) [.ref b, .int x0] mi ml mr dom (fun v mi ml mr dom => J cc nL RL nm rt d G X post bc bs mi ml mr dom (pc + 3) lv (vst v st))) : J cc nL RL nm rt d G X post bc bs mi ml mr dom pc lv (.int x0 :: .ref b :: st) := by
  obtain ⟨d1, h1, ct⟩ := ce
  exact cVL_24 hk hd (by omega) hst ct
theorem eVL_28 (hk : kd b = 11) (hd : decode cc pc = .ok (.invokevirtual 28, 3)) (h15 : 15 ≤ d) (hst : (st.map fun v => v.category).sum ≤ 8) (ce : CE G yX11_fault cX11_fault 1 (some .int) [.ref b] mi ml mr dom (fun v mi ml mr dom => J cc nL RL nm rt d G X post bc bs mi ml mr dom (pc + 3) lv (vst v st))) : J cc nL RL nm rt d G X post bc bs mi ml mr dom pc lv (.ref b :: st) := by
  obtain ⟨d1, h1, ct⟩ := ce
  exact cVL_28 hk hd (by omega) hst ct
theorem eVL_33 (hk : kd b = 11) (hd : decode cc pc = .ok (.invokevirtual 33, 3)) (h15 : 15 ≤ d) (hst : (st.map fun v => v.category).sum ≤ 8) (ce : CE G yX11_where cX11_where 1 (some .int) [.ref b] mi ml mr dom (fun v mi ml mr dom => J cc nL RL nm rt d G X post bc bs mi ml mr dom (pc + 3) lv (vst v st))) : J cc nL RL nm rt d G X post bc bs mi ml mr dom pc lv (.ref b :: st) := by
  obtain ⟨d1, h1, ct⟩ := ce
  exact cVL_33 hk hd (by omega) hst ct
theorem eVL_37 {x0 : Int32} {x1 : Int32} (hk : kd b = 11) (hd : decode cc pc = .ok (.invokevirtual 37, 3)) (h15 : 15 ≤ d) (hst : (st.map fun v => v.category).sum ≤ 8) (ce : CE G yX11_house cX11_house 3 (some .int) [.ref b, .int x0, .int x1] mi ml mr dom (fun v mi ml mr dom => J cc nL RL nm rt d G X post bc bs mi ml mr dom (pc + 3) lv (vst v st))) : J cc nL RL nm rt d G X post bc bs mi ml mr dom pc lv (.int x1 :: .int x0 :: .ref b :: st) := by
  obtain ⟨d1, h1, ct⟩ := ce
  exact cVL_37 hk hd (by omega) hst ct
theorem eVL_42 {x0 : Int32} {x1 : Int32} (hk : kd b = 11) (hd : decode cc pc = .ok (.invokevirtual 42, 3)) (h15 : 15 ≤ d) (hst : (st.map fun v => v.category).sum ≤ 8) (ce : CE G yX11_person cX11_person 4 (some .int) [.ref b, .int x0, .int x1] mi ml mr dom (fun v mi ml mr dom => J cc nL RL nm rt d G X post bc bs mi ml mr dom (pc + 3) lv (vst v st))) : J cc nL RL nm rt d G X post bc bs mi ml mr dom pc lv (.int x1 :: .int x0 :: .ref b :: st) := by
  obtain ⟨d1, h1, ct⟩ := ce
  exact cVL_42 hk hd (by omega) hst ct
theorem eVL_46 {x0 : Int32} {x1 : Int32} (hk : kd b = 11) (hd : decode cc pc = .ok (.invokevirtual 46, 3)) (h15 : 15 ≤ d) (hst : (st.map fun v => v.category).sum ≤ 8) (ce : CE G yX11_mark cX11_mark 3 (some .int) [.ref b, .int x0, .int x1] mi ml mr dom (fun v mi ml mr dom => J cc nL RL nm rt d G X post bc bs mi ml mr dom (pc + 3) lv (vst v st))) : J cc nL RL nm rt d G X post bc bs mi ml mr dom pc lv (.int x1 :: .int x0 :: .ref b :: st) := by
  obtain ⟨d1, h1, ct⟩ := ce
  exact cVL_46 hk hd (by omega) hst ct
theorem eVL_50 {x0 : Int32} {x1 : Int32} (hk : kd b = 11) (hd : decode cc pc = .ok (.invokevirtual 50, 3)) (h15 : 15 ≤ d) (hst : (st.map fun v => v.category).sum ≤ 8) (ce : CE G yX11_good cX11_good 4 (some .int) [.ref b, .int x0, .int x1] mi ml mr dom (fun v mi ml mr dom => J cc nL RL nm rt d G X post bc bs mi ml mr dom (pc + 3) lv (vst v st))) : J cc nL RL nm rt d G X post bc bs mi ml mr dom pc lv (.int x1 :: .int x0 :: .ref b :: st) := by
  obtain ⟨d1, h1, ct⟩ := ce
  exact cVL_50 hk hd (by omega) hst ct
theorem eVL_54 {x0 : Int32} (hk : kd b = 11) (hd : decode cc pc = .ok (.invokevirtual 54, 3)) (h15 : 15 ≤ d) (hst : (st.map fun v => v.category).sum ≤ 8) (ce : CE G yX11_light cX11_light 2 (some .int) [.ref b, .int x0] mi ml mr dom (fun v mi ml mr dom => J cc nL RL nm rt d G X post bc bs mi ml mr dom (pc + 3) lv (vst v st))) : J cc nL RL nm rt d G X post bc bs mi ml mr dom pc lv (.int x0 :: .ref b :: st) := by
  obtain ⟨d1, h1, ct⟩ := ce
  exact cVL_54 hk hd (by omega) hst ct
theorem eVL_58 {x0 : Int32} {x1 : Int32} {x2 : Int32} (hk : kd b = 11) (hd : decode cc pc = .ok (.invokevirtual 58, 3)) (h15 : 15 ≤ d) (hst : (st.map fun v => v.category).sum ≤ 8) (ce : CE G yX11_seen cX11_seen 4 (some .int) [.ref b, .int x0, .int x1, .int x2] mi ml mr dom (fun v mi ml mr dom => J cc nL RL nm rt d G X post bc bs mi ml mr dom (pc + 3) lv (vst v st))) : J cc nL RL nm rt d G X post bc bs mi ml mr dom pc lv (.int x2 :: .int x1 :: .int x0 :: .ref b :: st) := by
  obtain ⟨d1, h1, ct⟩ := ce
  exact cVL_58 hk hd (by omega) hst ct
theorem eVL_63 {x0 : Int32} {x1 : Int32} {x2 : Int32} (hk : kd b = 11) (hd : decode cc pc = .ok (.invokevirtual 63, 3)) (h15 : 15 ≤ d) (hst : (st.map fun v => v.category).sum ≤ 8) (ce : CE G yX11_taken cX11_taken 4 (some .int) [.ref b, .int x0, .int x1, .int x2] mi ml mr dom (fun v mi ml mr dom => J cc nL RL nm rt d G X post bc bs mi ml mr dom (pc + 3) lv (vst v st))) : J cc nL RL nm rt d G X post bc bs mi ml mr dom pc lv (.int x2 :: .int x1 :: .int x0 :: .ref b :: st) := by
  obtain ⟨d1, h1, ct⟩ := ce
  exact cVL_63 hk hd (by omega) hst ct
theorem eVL_67 {x0 : Int32} {x1 : Int32} (hk : kd b = 11) (hd : decode cc pc = .ok (.invokevirtual 67, 3)) (h15 : 15 ≤ d) (hst : (st.map fun v => v.category).sum ≤ 8) (ce : CE G yX11_pairs cX11_pairs 5 (some .int) [.ref b, .int x0, .int x1] mi ml mr dom (fun v mi ml mr dom => J cc nL RL nm rt d G X post bc bs mi ml mr dom (pc + 3) lv (vst v st))) : J cc nL RL nm rt d G X post bc bs mi ml mr dom pc lv (.int x1 :: .int x0 :: .ref b :: st) := by
  obtain ⟨d1, h1, ct⟩ := ce
  exact cVL_67 hk hd (by omega) hst ct
theorem eVL_71 {x0 : Int32} (hk : kd b = 11) (hd : decode cc pc = .ok (.invokevirtual 71, 3)) (h15 : 15 ≤ d) (hst : (st.map fun v => v.category).sum ≤ 8) (ce : CE G yX11_knownAt cX11_knownAt 4 (some .int) [.ref b, .int x0] mi ml mr dom (fun v mi ml mr dom => J cc nL RL nm rt d G X post bc bs mi ml mr dom (pc + 3) lv (vst v st))) : J cc nL RL nm rt d G X post bc bs mi ml mr dom pc lv (.int x0 :: .ref b :: st) := by
  obtain ⟨d1, h1, ct⟩ := ce
  exact cVL_71 hk hd (by omega) hst ct
theorem eVL_75 {x0 : Int32} {x1 : Int32} {x2 : Int32} (hk : kd b = 11) (hd : decode cc pc = .ok (.invokevirtual 75, 3)) (h15 : 15 ≤ d) (hst : (st.map fun v => v.category).sum ≤ 8) (ce : CE G yX11_fine cX11_fine 4 (some .int) [.ref b, .int x0, .int x1, .int x2] mi ml mr dom (fun v mi ml mr dom => J cc nL RL nm rt d G X post bc bs mi ml mr dom (pc + 3) lv (vst v st))) : J cc nL RL nm rt d G X post bc bs mi ml mr dom pc lv (.int x2 :: .int x1 :: .int x0 :: .ref b :: st) := by
  obtain ⟨d1, h1, ct⟩ := ce
  exact cVL_75 hk hd (by omega) hst ct
theorem eVL_79 {x0 : Int32} {x1 : Int32} (hk : kd b = 11) (hd : decode cc pc = .ok (.invokevirtual 79, 3)) (h15 : 15 ≤ d) (hst : (st.map fun v => v.category).sum ≤ 8) (ce : CE G yX11_visit cX11_visit 4 (some .int) [.ref b, .int x0, .int x1] mi ml mr dom (fun v mi ml mr dom => J cc nL RL nm rt d G X post bc bs mi ml mr dom (pc + 3) lv (vst v st))) : J cc nL RL nm rt d G X post bc bs mi ml mr dom pc lv (.int x1 :: .int x0 :: .ref b :: st) := by
  obtain ⟨d1, h1, ct⟩ := ce
  exact cVL_79 hk hd (by omega) hst ct
theorem eVL_83 {x0 : Int32} (hk : kd b = 11) (hd : decode cc pc = .ok (.invokevirtual 83, 3)) (h15 : 15 ≤ d) (hst : (st.map fun v => v.category).sum ≤ 8) (ce : CE G yX11_fines cX11_fines 4 (some .int) [.ref b, .int x0] mi ml mr dom (fun v mi ml mr dom => J cc nL RL nm rt d G X post bc bs mi ml mr dom (pc + 3) lv (vst v st))) : J cc nL RL nm rt d G X post bc bs mi ml mr dom pc lv (.int x0 :: .ref b :: st) := by
  obtain ⟨d1, h1, ct⟩ := ce
  exact cVL_83 hk hd (by omega) hst ct
theorem eVL_87 {x0 : Int32} (hk : kd b = 11) (hd : decode cc pc = .ok (.invokevirtual 87, 3)) (h15 : 15 ≤ d) (hst : (st.map fun v => v.category).sum ≤ 8) (ce : CE G yX11_bares cX11_bares 4 (some .int) [.ref b, .int x0] mi ml mr dom (fun v mi ml mr dom => J cc nL RL nm rt d G X post bc bs mi ml mr dom (pc + 3) lv (vst v st))) : J cc nL RL nm rt d G X post bc bs mi ml mr dom pc lv (.int x0 :: .ref b :: st) := by
  obtain ⟨d1, h1, ct⟩ := ce
  exact cVL_87 hk hd (by omega) hst ct
theorem eVL_91 {x0 : Int32} (hk : kd b = 11) (hd : decode cc pc = .ok (.invokevirtual 91, 3)) (h15 : 15 ≤ d) (hst : (st.map fun v => v.category).sum ≤ 8) (ce : CE G yX11_met cX11_met 6 (some .int) [.ref b, .int x0] mi ml mr dom (fun v mi ml mr dom => J cc nL RL nm rt d G X post bc bs mi ml mr dom (pc + 3) lv (vst v st))) : J cc nL RL nm rt d G X post bc bs mi ml mr dom pc lv (.int x0 :: .ref b :: st) := by
  obtain ⟨d1, h1, ct⟩ := ce
  exact cVL_91 hk hd (by omega) hst ct
theorem eVL_95 (hk : kd b = 11) (hd : decode cc pc = .ok (.invokevirtual 95, 3)) (h15 : 15 ≤ d) (hst : (st.map fun v => v.category).sum ≤ 8) (ce : CE G yX11_busiest cX11_busiest 5 (some .int) [.ref b] mi ml mr dom (fun v mi ml mr dom => J cc nL RL nm rt d G X post bc bs mi ml mr dom (pc + 3) lv (vst v st))) : J cc nL RL nm rt d G X post bc bs mi ml mr dom pc lv (.ref b :: st) := by
  obtain ⟨d1, h1, ct⟩ := ce
  exact cVL_95 hk hd (by omega) hst ct
theorem eVL_99 {x0 : Int32} {x1 : Int32} (hk : kd b = 11) (hd : decode cc pc = .ok (.invokevirtual 99, 3)) (h15 : 15 ≤ d) (hst : (st.map fun v => v.category).sum ≤ 8) (ce : CE G yX11_apart cX11_apart 5 (some .int) [.ref b, .int x0, .int x1] mi ml mr dom (fun v mi ml mr dom => J cc nL RL nm rt d G X post bc bs mi ml mr dom (pc + 3) lv (vst v st))) : J cc nL RL nm rt d G X post bc bs mi ml mr dom pc lv (.int x1 :: .int x0 :: .ref b :: st) := by
  obtain ⟨d1, h1, ct⟩ := ce
  exact cVL_99 hk hd (by omega) hst ct
theorem eVL_103 (hk : kd b = 11) (hd : decode cc pc = .ok (.invokevirtual 103, 3)) (h15 : 15 ≤ d) (hst : (st.map fun v => v.category).sum ≤ 8) (ce : CE G yX11_tells cX11_tells 3 (some .int) [.ref b] mi ml mr dom (fun v mi ml mr dom => J cc nL RL nm rt d G X post bc bs mi ml mr dom (pc + 3) lv (vst v st))) : J cc nL RL nm rt d G X post bc bs mi ml mr dom pc lv (.ref b :: st) := by
  obtain ⟨d1, h1, ct⟩ := ce
  exact cVL_103 hk hd (by omega) hst ct
theorem eVL_107 {x0 : Int32} (hk : kd b = 11) (hd : decode cc pc = .ok (.invokevirtual 107, 3)) (h15 : 15 ≤ d) (hst : (st.map fun v => v.category).sum ≤ 8) (ce : CE G yX11_another cX11_another 2 (some .int) [.ref b, .int x0] mi ml mr dom (fun v mi ml mr dom => J cc nL RL nm rt d G X post bc bs mi ml mr dom (pc + 3) lv (vst v st))) : J cc nL RL nm rt d G X post bc bs mi ml mr dom pc lv (.int x0 :: .ref b :: st) := by
  obtain ⟨d1, h1, ct⟩ := ce
  exact cVL_107 hk hd (by omega) hst ct
theorem eVL_111 (hk : kd b = 11) (hd : decode cc pc = .ok (.invokevirtual 111, 3)) (h15 : 15 ≤ d) (hst : (st.map fun v => v.category).sum ≤ 8) (ce : CE G yX11_leastSill cX11_leastSill 2 (some .int) [.ref b] mi ml mr dom (fun v mi ml mr dom => J cc nL RL nm rt d G X post bc bs mi ml mr dom (pc + 3) lv (vst v st))) : J cc nL RL nm rt d G X post bc bs mi ml mr dom pc lv (.ref b :: st) := by
  obtain ⟨d1, h1, ct⟩ := ce
  exact cVL_111 hk hd (by omega) hst ct
theorem eVL_115 {x0 : Int32} {x1 : Int32} (hk : kd b = 11) (hd : decode cc pc = .ok (.invokevirtual 115, 3)) (h15 : 15 ≤ d) (hst : (st.map fun v => v.category).sum ≤ 8) (ce : CE G yX11_way cX11_way 4 (some .int) [.ref b, .int x0, .int x1] mi ml mr dom (fun v mi ml mr dom => J cc nL RL nm rt d G X post bc bs mi ml mr dom (pc + 3) lv (vst v st))) : J cc nL RL nm rt d G X post bc bs mi ml mr dom pc lv (.int x1 :: .int x0 :: .ref b :: st) := by
  obtain ⟨d1, h1, ct⟩ := ce
  exact cVL_115 hk hd (by omega) hst ct
theorem eVL_119 {x0 : Int32} {x1 : Int32} {x2 : Int32} (hk : kd b = 11) (hd : decode cc pc = .ok (.invokevirtual 119, 3)) (h15 : 15 ≤ d) (hst : (st.map fun v => v.category).sum ≤ 8) (ce : CE G yX11_wayAt cX11_wayAt 6 (some .int) [.ref b, .int x0, .int x1, .int x2] mi ml mr dom (fun v mi ml mr dom => J cc nL RL nm rt d G X post bc bs mi ml mr dom (pc + 3) lv (vst v st))) : J cc nL RL nm rt d G X post bc bs mi ml mr dom pc lv (.int x2 :: .int x1 :: .int x0 :: .ref b :: st) := by
  obtain ⟨d1, h1, ct⟩ := ce
  exact cVL_119 hk hd (by omega) hst ct
theorem eVL_123 (hk : kd b = 11) (hd : decode cc pc = .ok (.invokevirtual 123, 3)) (h15 : 15 ≤ d) (hst : (st.map fun v => v.category).sum ≤ 8) (ce : CE G yX11_carried cX11_carried 2 (some .int) [.ref b] mi ml mr dom (fun v mi ml mr dom => J cc nL RL nm rt d G X post bc bs mi ml mr dom (pc + 3) lv (vst v st))) : J cc nL RL nm rt d G X post bc bs mi ml mr dom pc lv (.ref b :: st) := by
  obtain ⟨d1, h1, ct⟩ := ce
  exact cVL_123 hk hd (by omega) hst ct
theorem eVL_127 {x0 : Int32} (hk : kd b = 11) (hd : decode cc pc = .ok (.invokevirtual 127, 3)) (h15 : 15 ≤ d) (hst : (st.map fun v => v.category).sum ≤ 8) (ce : CE G yX11_carrier cX11_carrier 2 (some .int) [.ref b, .int x0] mi ml mr dom (fun v mi ml mr dom => J cc nL RL nm rt d G X post bc bs mi ml mr dom (pc + 3) lv (vst v st))) : J cc nL RL nm rt d G X post bc bs mi ml mr dom pc lv (.int x0 :: .ref b :: st) := by
  obtain ⟨d1, h1, ct⟩ := ce
  exact cVL_127 hk hd (by omega) hst ct
theorem eVL_131 {x0 : Int32} (hk : kd b = 11) (hd : decode cc pc = .ok (.invokevirtual 131, 3)) (h15 : 15 ≤ d) (hst : (st.map fun v => v.category).sum ≤ 8) (ce : CE G yX11_alone cX11_alone 2 (some .int) [.ref b, .int x0] mi ml mr dom (fun v mi ml mr dom => J cc nL RL nm rt d G X post bc bs mi ml mr dom (pc + 3) lv (vst v st))) : J cc nL RL nm rt d G X post bc bs mi ml mr dom pc lv (.int x0 :: .ref b :: st) := by
  obtain ⟨d1, h1, ct⟩ := ce
  exact cVL_131 hk hd (by omega) hst ct
theorem eVL_135 (hk : kd b = 11) (hd : decode cc pc = .ok (.invokevirtual 135, 3)) (h15 : 15 ≤ d) (hst : (st.map fun v => v.category).sum ≤ 8) (ce : CE G yX11_stuck cX11_stuck 1 (some .int) [.ref b] mi ml mr dom (fun v mi ml mr dom => J cc nL RL nm rt d G X post bc bs mi ml mr dom (pc + 3) lv (vst v st))) : J cc nL RL nm rt d G X post bc bs mi ml mr dom pc lv (.ref b :: st) := by
  obtain ⟨d1, h1, ct⟩ := ce
  exact cVL_135 hk hd (by omega) hst ct
theorem eVL_139 {x0 : Int32} (hk : kd b = 11) (hd : decode cc pc = .ok (.invokevirtual 139, 3)) (h15 : 15 ≤ d) (hst : (st.map fun v => v.category).sum ≤ 8) (ce : CE G yX11_hands cX11_hands 3 (some .int) [.ref b, .int x0] mi ml mr dom (fun v mi ml mr dom => J cc nL RL nm rt d G X post bc bs mi ml mr dom (pc + 3) lv (vst v st))) : J cc nL RL nm rt d G X post bc bs mi ml mr dom pc lv (.int x0 :: .ref b :: st) := by
  obtain ⟨d1, h1, ct⟩ := ce
  exact cVL_139 hk hd (by omega) hst ct
theorem eVL_143 {x0 : Int32} (hk : kd b = 11) (hd : decode cc pc = .ok (.invokevirtual 143, 3)) (h15 : 15 ≤ d) (hst : (st.map fun v => v.category).sum ≤ 8) (ce : CE G yX11_round cX11_round 2 (some .int) [.ref b, .int x0] mi ml mr dom (fun v mi ml mr dom => J cc nL RL nm rt d G X post bc bs mi ml mr dom (pc + 3) lv (vst v st))) : J cc nL RL nm rt d G X post bc bs mi ml mr dom pc lv (.int x0 :: .ref b :: st) := by
  obtain ⟨d1, h1, ct⟩ := ce
  exact cVL_143 hk hd (by omega) hst ct
theorem eVL_147 (hk : kd b = 11) (hd : decode cc pc = .ok (.invokevirtual 147, 3)) (h15 : 15 ≤ d) (hst : (st.map fun v => v.category).sum ≤ 8) (ce : CE G yX11_pieces cX11_pieces 3 (some .int) [.ref b] mi ml mr dom (fun v mi ml mr dom => J cc nL RL nm rt d G X post bc bs mi ml mr dom (pc + 3) lv (vst v st))) : J cc nL RL nm rt d G X post bc bs mi ml mr dom pc lv (.ref b :: st) := by
  obtain ⟨d1, h1, ct⟩ := ce
  exact cVL_147 hk hd (by omega) hst ct
theorem eVL_151 (hk : kd b = 11) (hd : decode cc pc = .ok (.invokevirtual 151, 3)) (h15 : 15 ≤ d) (hst : (st.map fun v => v.category).sum ≤ 8) (ce : CE G yX11_fits cX11_fits 1 (some .int) [.ref b] mi ml mr dom (fun v mi ml mr dom => J cc nL RL nm rt d G X post bc bs mi ml mr dom (pc + 3) lv (vst v st))) : J cc nL RL nm rt d G X post bc bs mi ml mr dom pc lv (.ref b :: st) := by
  obtain ⟨d1, h1, ct⟩ := ce
  exact cVL_151 hk hd (by omega) hst ct
theorem eVL_155 {x0 : Int32} (hk : kd b = 11) (hd : decode cc pc = .ok (.invokevirtual 155, 3)) (h15 : 15 ≤ d) (hst : (st.map fun v => v.category).sum ≤ 8) (ce : CE G yX11_could cX11_could 2 (some .int) [.ref b, .int x0] mi ml mr dom (fun v mi ml mr dom => J cc nL RL nm rt d G X post bc bs mi ml mr dom (pc + 3) lv (vst v st))) : J cc nL RL nm rt d G X post bc bs mi ml mr dom pc lv (.int x0 :: .ref b :: st) := by
  obtain ⟨d1, h1, ct⟩ := ce
  exact cVL_155 hk hd (by omega) hst ct
theorem eVL_159 {x0 : Int32} (hk : kd b = 11) (hd : decode cc pc = .ok (.invokevirtual 159, 3)) (h15 : 15 ≤ d) (hst : (st.map fun v => v.category).sum ≤ 8) (ce : CE G yX11_surely cX11_surely 2 (some .int) [.ref b, .int x0] mi ml mr dom (fun v mi ml mr dom => J cc nL RL nm rt d G X post bc bs mi ml mr dom (pc + 3) lv (vst v st))) : J cc nL RL nm rt d G X post bc bs mi ml mr dom pc lv (.int x0 :: .ref b :: st) := by
  obtain ⟨d1, h1, ct⟩ := ce
  exact cVL_159 hk hd (by omega) hst ct
theorem eVL_163 (hk : kd b = 11) (hd : decode cc pc = .ok (.invokevirtual 163, 3)) (h15 : 15 ≤ d) (hst : (st.map fun v => v.category).sum ≤ 8) (ce : CE G yX11_ask cX11_ask 3 (some .int) [.ref b] mi ml mr dom (fun v mi ml mr dom => J cc nL RL nm rt d G X post bc bs mi ml mr dom (pc + 3) lv (vst v st))) : J cc nL RL nm rt d G X post bc bs mi ml mr dom pc lv (.ref b :: st) := by
  obtain ⟨d1, h1, ct⟩ := ce
  exact cVL_163 hk hd (by omega) hst ct
theorem eVL_167 {x0 : Int32} {x1 : Int32} {x2 : Int32} (hk : kd b = 11) (hd : decode cc pc = .ok (.invokevirtual 167, 3)) (h15 : 15 ≤ d) (hst : (st.map fun v => v.category).sum ≤ 8) (ce : CE G yX11_shop cX11_shop 4 (some .int) [.ref b, .int x0, .int x1, .int x2] mi ml mr dom (fun v mi ml mr dom => J cc nL RL nm rt d G X post bc bs mi ml mr dom (pc + 3) lv (vst v st))) : J cc nL RL nm rt d G X post bc bs mi ml mr dom pc lv (.int x2 :: .int x1 :: .int x0 :: .ref b :: st) := by
  obtain ⟨d1, h1, ct⟩ := ce
  exact cVL_167 hk hd (by omega) hst ct
theorem eVL_172 (hk : kd b = 11) (hd : decode cc pc = .ok (.invokevirtual 172, 3)) (h15 : 15 ≤ d) (hst : (st.map fun v => v.category).sum ≤ 8) (ce : CE G yX11_rests cX11_rests 4 (some .int) [.ref b] mi ml mr dom (fun v mi ml mr dom => J cc nL RL nm rt d G X post bc bs mi ml mr dom (pc + 3) lv (vst v st))) : J cc nL RL nm rt d G X post bc bs mi ml mr dom pc lv (.ref b :: st) := by
  obtain ⟨d1, h1, ct⟩ := ce
  exact cVL_172 hk hd (by omega) hst ct
theorem eVL_176 (hk : kd b = 11) (hd : decode cc pc = .ok (.invokevirtual 176, 3)) (h15 : 15 ≤ d) (hst : (st.map fun v => v.category).sum ≤ 8) (ce : CE G yX11_rest cX11_rest 3 (some .int) [.ref b] mi ml mr dom (fun v mi ml mr dom => J cc nL RL nm rt d G X post bc bs mi ml mr dom (pc + 3) lv (vst v st))) : J cc nL RL nm rt d G X post bc bs mi ml mr dom pc lv (.ref b :: st) := by
  obtain ⟨d1, h1, ct⟩ := ce
  exact cVL_176 hk hd (by omega) hst ct
theorem eVL_180 {x0 : Int32} (hk : kd b = 11) (hd : decode cc pc = .ok (.invokevirtual 180, 3)) (h15 : 15 ≤ d) (hst : (st.map fun v => v.category).sum ≤ 8) (ce : CE G yX11_day cX11_day 2 (some .int) [.ref b, .int x0] mi ml mr dom (fun v mi ml mr dom => J cc nL RL nm rt d G X post bc bs mi ml mr dom (pc + 3) lv (vst v st))) : J cc nL RL nm rt d G X post bc bs mi ml mr dom pc lv (.int x0 :: .ref b :: st) := by
  obtain ⟨d1, h1, ct⟩ := ce
  exact cVL_180 hk hd (by omega) hst ct
theorem eVL_184 {x0 : Int32} {x1 : Int32} {x2 : Int32} (hk : kd b = 11) (hd : decode cc pc = .ok (.invokevirtual 184, 3)) (h15 : 15 ≤ d) (hst : (st.map fun v => v.category).sum ≤ 8) (ce : CE G yX11_dayOf cX11_dayOf 4 (some .int) [.ref b, .int x0, .int x1, .int x2] mi ml mr dom (fun v mi ml mr dom => J cc nL RL nm rt d G X post bc bs mi ml mr dom (pc + 3) lv (vst v st))) : J cc nL RL nm rt d G X post bc bs mi ml mr dom pc lv (.int x2 :: .int x1 :: .int x0 :: .ref b :: st) := by
  obtain ⟨d1, h1, ct⟩ := ce
  exact cVL_184 hk hd (by omega) hst ct
theorem eVL_188 {x0 : Int32} {x1 : Int32} (hk : kd b = 11) (hd : decode cc pc = .ok (.invokevirtual 188, 3)) (h15 : 15 ≤ d) (hst : (st.map fun v => v.category).sum ≤ 8) (ce : CE G yX11_go cX11_go 5 (some .int) [.ref b, .int x0, .int x1] mi ml mr dom (fun v mi ml mr dom => J cc nL RL nm rt d G X post bc bs mi ml mr dom (pc + 3) lv (vst v st))) : J cc nL RL nm rt d G X post bc bs mi ml mr dom pc lv (.int x1 :: .int x0 :: .ref b :: st) := by
  obtain ⟨d1, h1, ct⟩ := ce
  exact cVL_188 hk hd (by omega) hst ct
theorem eVL_192 {x0 : Int32} {x1 : Int32} (hk : kd b = 11) (hd : decode cc pc = .ok (.invokevirtual 192, 3)) (h15 : 15 ≤ d) (hst : (st.map fun v => v.category).sum ≤ 8) (ce : CE G yX11_hand cX11_hand 5 (some .boolean) [.ref b, .int x0, .int x1] mi ml mr dom (fun v mi ml mr dom => J cc nL RL nm rt d G X post bc bs mi ml mr dom (pc + 3) lv (vst v st))) : J cc nL RL nm rt d G X post bc bs mi ml mr dom pc lv (.int x1 :: .int x0 :: .ref b :: st) := by
  obtain ⟨d1, h1, ct⟩ := ce
  exact cVL_192 hk hd (by omega) hst ct
theorem eVL_197 {x0 : Int32} (hk : kd b = 11) (hd : decode cc pc = .ok (.invokevirtual 197, 3)) (h15 : 15 ≤ d) (hst : (st.map fun v => v.category).sum ≤ 8) (ce : CE G yX11_hours cX11_hours 2 (some .int) [.ref b, .int x0] mi ml mr dom (fun v mi ml mr dom => J cc nL RL nm rt d G X post bc bs mi ml mr dom (pc + 3) lv (vst v st))) : J cc nL RL nm rt d G X post bc bs mi ml mr dom pc lv (.int x0 :: .ref b :: st) := by
  obtain ⟨d1, h1, ct⟩ := ce
  exact cVL_197 hk hd (by omega) hst ct
theorem eVL_201 (hk : kd b = 11) (hd : decode cc pc = .ok (.invokevirtual 201, 3)) (h15 : 15 ≤ d) (hst : (st.map fun v => v.category).sum ≤ 8) (ce : CE G yX11_undo cX11_undo 1 (some .boolean) [.ref b] mi ml mr dom (fun v mi ml mr dom => J cc nL RL nm rt d G X post bc bs mi ml mr dom (pc + 3) lv (vst v st))) : J cc nL RL nm rt d G X post bc bs mi ml mr dom pc lv (.ref b :: st) := by
  obtain ⟨d1, h1, ct⟩ := ce
  exact cVL_201 hk hd (by omega) hst ct
theorem eVL_206 (hk : kd b = 11) (hd : decode cc pc = .ok (.invokevirtual 206, 3)) (h15 : 15 ≤ d) (hst : (st.map fun v => v.category).sum ≤ 8) (ce : CE G yX11_image cX11_image 1 (some .int) [.ref b] mi ml mr dom (fun v mi ml mr dom => J cc nL RL nm rt d G X post bc bs mi ml mr dom (pc + 3) lv (vst v st))) : J cc nL RL nm rt d G X post bc bs mi ml mr dom pc lv (.ref b :: st) := by
  obtain ⟨d1, h1, ct⟩ := ce
  exact cVL_206 hk hd (by omega) hst ct
theorem eVL_210 {x0 : Int32} (hk : kd b = 11) (hd : decode cc pc = .ok (.invokevirtual 210, 3)) (h15 : 15 ≤ d) (hst : (st.map fun v => v.category).sum ≤ 8) (ce : CE G yX11_back cX11_back 2 (some .boolean) [.ref b, .int x0] mi ml mr dom (fun v mi ml mr dom => J cc nL RL nm rt d G X post bc bs mi ml mr dom (pc + 3) lv (vst v st))) : J cc nL RL nm rt d G X post bc bs mi ml mr dom pc lv (.int x0 :: .ref b :: st) := by
  obtain ⟨d1, h1, ct⟩ := ce
  exact cVL_210 hk hd (by omega) hst ct
theorem eVL_224 {x0 : Int32} (hk : kd b = 11) (hd : decode cc pc = .ok (.invokevirtual 224, 3)) (h15 : 15 ≤ d) (hst : (st.map fun v => v.category).sum ≤ 8) (ce : CE G yX11_size cX11_size 2 (some .int) [.ref b, .int x0] mi ml mr dom (fun v mi ml mr dom => J cc nL RL nm rt d G X post bc bs mi ml mr dom (pc + 3) lv (vst v st))) : J cc nL RL nm rt d G X post bc bs mi ml mr dom pc lv (.int x0 :: .ref b :: st) := by
  obtain ⟨d1, h1, ct⟩ := ce
  exact cVL_224 hk hd (by omega) hst ct
theorem eVL_228 (hk : kd b = 11) (hd : decode cc pc = .ok (.invokevirtual 228, 3)) (h15 : 15 ≤ d) (hst : (st.map fun v => v.category).sum ≤ 8) (ce : CE G yX11_trouble cX11_trouble 1 (some .int) [.ref b] mi ml mr dom (fun v mi ml mr dom => J cc nL RL nm rt d G X post bc bs mi ml mr dom (pc + 3) lv (vst v st))) : J cc nL RL nm rt d G X post bc bs mi ml mr dom pc lv (.ref b :: st) := by
  obtain ⟨d1, h1, ct⟩ := ce
  exact cVL_228 hk hd (by omega) hst ct
theorem eVL_221 (hk : kd b = 13) (hd : decode cc pc = .ok (.invokevirtual 221, 3)) (h15 : 15 ≤ d) (hst : (st.map fun v => v.category).sum ≤ 8) (ce : CE G yX13_thrown cX13_thrown 1 (some .int) [.ref b] mi ml mr dom (fun v mi ml mr dom => J cc nL RL nm rt d G X post bc bs mi ml mr dom (pc + 3) lv (vst v st))) : J cc nL RL nm rt d G X post bc bs mi ml mr dom pc lv (.ref b :: st) := by
  obtain ⟨d1, h1, ct⟩ := ce
  exact cVL_221 hk hd (by omega) hst ct
theorem eVL_23 {x0 : Int32} {x1 : Int32} {x2 : Int32} {x3 : Int32} {x4 : Int32} (hk : kd b = 13) (hd : decode cc pc = .ok (.invokevirtual 23, 3)) (h15 : 15 ≤ d) (hst : (st.map fun v => v.category).sum ≤ 8) (ce : CE G yX13_feed cX13_feed 8 (some .int) [.ref b, .int x0, .int x1, .int x2, .int x3, .int x4] mi ml mr dom (fun v mi ml mr dom => J cc nL RL nm rt d G X post bc bs mi ml mr dom (pc + 3) lv (vst v st))) : J cc nL RL nm rt d G X post bc bs mi ml mr dom pc lv (.int x4 :: .int x3 :: .int x2 :: .int x1 :: .int x0 :: .ref b :: st) := by
  obtain ⟨d1, h1, ct⟩ := ce
  exact cVL_23 hk hd (by omega) hst ct
theorem eVL_27 {x0 : Int32} (hk : kd b = 13) (hd : decode cc pc = .ok (.invokevirtual 27, 3)) (h15 : 15 ≤ d) (hst : (st.map fun v => v.category).sum ≤ 8) (ce : CE G yX13_town cX13_town 3 (some .int) [.ref b, .int x0] mi ml mr dom (fun v mi ml mr dom => J cc nL RL nm rt d G X post bc bs mi ml mr dom (pc + 3) lv (vst v st))) : J cc nL RL nm rt d G X post bc bs mi ml mr dom pc lv (.int x0 :: .ref b :: st) := by
  obtain ⟨d1, h1, ct⟩ := ce
  exact cVL_27 hk hd (by omega) hst ct
theorem eVL_32 (hk : kd b = 13) (hd : decode cc pc = .ok (.invokevirtual 32, 3)) (h15 : 15 ≤ d) (hst : (st.map fun v => v.category).sum ≤ 8) (ce : CE G yX13_fault cX13_fault 1 (some .int) [.ref b] mi ml mr dom (fun v mi ml mr dom => J cc nL RL nm rt d G X post bc bs mi ml mr dom (pc + 3) lv (vst v st))) : J cc nL RL nm rt d G X post bc bs mi ml mr dom pc lv (.ref b :: st) := by
  obtain ⟨d1, h1, ct⟩ := ce
  exact cVL_32 hk hd (by omega) hst ct
theorem eVL_36 (hk : kd b = 13) (hd : decode cc pc = .ok (.invokevirtual 36, 3)) (h15 : 15 ≤ d) (hst : (st.map fun v => v.category).sum ≤ 8) (ce : CE G yX13_where cX13_where 1 (some .int) [.ref b] mi ml mr dom (fun v mi ml mr dom => J cc nL RL nm rt d G X post bc bs mi ml mr dom (pc + 3) lv (vst v st))) : J cc nL RL nm rt d G X post bc bs mi ml mr dom pc lv (.ref b :: st) := by
  obtain ⟨d1, h1, ct⟩ := ce
  exact cVL_36 hk hd (by omega) hst ct
theorem eVL_41 {x0 : Int32} {x1 : Int32} (hk : kd b = 13) (hd : decode cc pc = .ok (.invokevirtual 41, 3)) (h15 : 15 ≤ d) (hst : (st.map fun v => v.category).sum ≤ 8) (ce : CE G yX13_house cX13_house 5 (some .int) [.ref b, .int x0, .int x1] mi ml mr dom (fun v mi ml mr dom => J cc nL RL nm rt d G X post bc bs mi ml mr dom (pc + 3) lv (vst v st))) : J cc nL RL nm rt d G X post bc bs mi ml mr dom pc lv (.int x1 :: .int x0 :: .ref b :: st) := by
  obtain ⟨d1, h1, ct⟩ := ce
  exact cVL_41 hk hd (by omega) hst ct
theorem eVL_45 {x0 : Int32} {x1 : Int32} (hk : kd b = 13) (hd : decode cc pc = .ok (.invokevirtual 45, 3)) (h15 : 15 ≤ d) (hst : (st.map fun v => v.category).sum ≤ 8) (ce : CE G yX13_person cX13_person 3 (some .int) [.ref b, .int x0, .int x1] mi ml mr dom (fun v mi ml mr dom => J cc nL RL nm rt d G X post bc bs mi ml mr dom (pc + 3) lv (vst v st))) : J cc nL RL nm rt d G X post bc bs mi ml mr dom pc lv (.int x1 :: .int x0 :: .ref b :: st) := by
  obtain ⟨d1, h1, ct⟩ := ce
  exact cVL_45 hk hd (by omega) hst ct
theorem eVL_49 {x0 : Int32} {x1 : Int32} (hk : kd b = 13) (hd : decode cc pc = .ok (.invokevirtual 49, 3)) (h15 : 15 ≤ d) (hst : (st.map fun v => v.category).sum ≤ 8) (ce : CE G yX13_mark cX13_mark 3 (some .int) [.ref b, .int x0, .int x1] mi ml mr dom (fun v mi ml mr dom => J cc nL RL nm rt d G X post bc bs mi ml mr dom (pc + 3) lv (vst v st))) : J cc nL RL nm rt d G X post bc bs mi ml mr dom pc lv (.int x1 :: .int x0 :: .ref b :: st) := by
  obtain ⟨d1, h1, ct⟩ := ce
  exact cVL_49 hk hd (by omega) hst ct
theorem eVL_53 {x0 : Int32} {x1 : Int32} (hk : kd b = 13) (hd : decode cc pc = .ok (.invokevirtual 53, 3)) (h15 : 15 ≤ d) (hst : (st.map fun v => v.category).sum ≤ 8) (ce : CE G yX13_good cX13_good 3 (some .int) [.ref b, .int x0, .int x1] mi ml mr dom (fun v mi ml mr dom => J cc nL RL nm rt d G X post bc bs mi ml mr dom (pc + 3) lv (vst v st))) : J cc nL RL nm rt d G X post bc bs mi ml mr dom pc lv (.int x1 :: .int x0 :: .ref b :: st) := by
  obtain ⟨d1, h1, ct⟩ := ce
  exact cVL_53 hk hd (by omega) hst ct
theorem eVL_57 {x0 : Int32} (hk : kd b = 13) (hd : decode cc pc = .ok (.invokevirtual 57, 3)) (h15 : 15 ≤ d) (hst : (st.map fun v => v.category).sum ≤ 8) (ce : CE G yX13_light cX13_light 2 (some .int) [.ref b, .int x0] mi ml mr dom (fun v mi ml mr dom => J cc nL RL nm rt d G X post bc bs mi ml mr dom (pc + 3) lv (vst v st))) : J cc nL RL nm rt d G X post bc bs mi ml mr dom pc lv (.int x0 :: .ref b :: st) := by
  obtain ⟨d1, h1, ct⟩ := ce
  exact cVL_57 hk hd (by omega) hst ct
theorem eVL_62 {x0 : Int32} {x1 : Int32} {x2 : Int32} (hk : kd b = 13) (hd : decode cc pc = .ok (.invokevirtual 62, 3)) (h15 : 15 ≤ d) (hst : (st.map fun v => v.category).sum ≤ 8) (ce : CE G yX13_seen cX13_seen 5 (some .int) [.ref b, .int x0, .int x1, .int x2] mi ml mr dom (fun v mi ml mr dom => J cc nL RL nm rt d G X post bc bs mi ml mr dom (pc + 3) lv (vst v st))) : J cc nL RL nm rt d G X post bc bs mi ml mr dom pc lv (.int x2 :: .int x1 :: .int x0 :: .ref b :: st) := by
  obtain ⟨d1, h1, ct⟩ := ce
  exact cVL_62 hk hd (by omega) hst ct
theorem eVL_66 {x0 : Int32} {x1 : Int32} {x2 : Int32} (hk : kd b = 13) (hd : decode cc pc = .ok (.invokevirtual 66, 3)) (h15 : 15 ≤ d) (hst : (st.map fun v => v.category).sum ≤ 8) (ce : CE G yX13_taken cX13_taken 5 (some .int) [.ref b, .int x0, .int x1, .int x2] mi ml mr dom (fun v mi ml mr dom => J cc nL RL nm rt d G X post bc bs mi ml mr dom (pc + 3) lv (vst v st))) : J cc nL RL nm rt d G X post bc bs mi ml mr dom pc lv (.int x2 :: .int x1 :: .int x0 :: .ref b :: st) := by
  obtain ⟨d1, h1, ct⟩ := ce
  exact cVL_66 hk hd (by omega) hst ct
theorem eVL_70 {x0 : Int32} {x1 : Int32} (hk : kd b = 13) (hd : decode cc pc = .ok (.invokevirtual 70, 3)) (h15 : 15 ≤ d) (hst : (st.map fun v => v.category).sum ≤ 8) (ce : CE G yX13_pairs cX13_pairs 6 (some .int) [.ref b, .int x0, .int x1] mi ml mr dom (fun v mi ml mr dom => J cc nL RL nm rt d G X post bc bs mi ml mr dom (pc + 3) lv (vst v st))) : J cc nL RL nm rt d G X post bc bs mi ml mr dom pc lv (.int x1 :: .int x0 :: .ref b :: st) := by
  obtain ⟨d1, h1, ct⟩ := ce
  exact cVL_70 hk hd (by omega) hst ct
theorem eVL_74 {x0 : Int32} (hk : kd b = 13) (hd : decode cc pc = .ok (.invokevirtual 74, 3)) (h15 : 15 ≤ d) (hst : (st.map fun v => v.category).sum ≤ 8) (ce : CE G yX13_knownAt cX13_knownAt 4 (some .int) [.ref b, .int x0] mi ml mr dom (fun v mi ml mr dom => J cc nL RL nm rt d G X post bc bs mi ml mr dom (pc + 3) lv (vst v st))) : J cc nL RL nm rt d G X post bc bs mi ml mr dom pc lv (.int x0 :: .ref b :: st) := by
  obtain ⟨d1, h1, ct⟩ := ce
  exact cVL_74 hk hd (by omega) hst ct
theorem eVL_78 {x0 : Int32} {x1 : Int32} {x2 : Int32} (hk : kd b = 13) (hd : decode cc pc = .ok (.invokevirtual 78, 3)) (h15 : 15 ≤ d) (hst : (st.map fun v => v.category).sum ≤ 8) (ce : CE G yX13_fine cX13_fine 5 (some .int) [.ref b, .int x0, .int x1, .int x2] mi ml mr dom (fun v mi ml mr dom => J cc nL RL nm rt d G X post bc bs mi ml mr dom (pc + 3) lv (vst v st))) : J cc nL RL nm rt d G X post bc bs mi ml mr dom pc lv (.int x2 :: .int x1 :: .int x0 :: .ref b :: st) := by
  obtain ⟨d1, h1, ct⟩ := ce
  exact cVL_78 hk hd (by omega) hst ct
theorem eVL_82 {x0 : Int32} {x1 : Int32} (hk : kd b = 13) (hd : decode cc pc = .ok (.invokevirtual 82, 3)) (h15 : 15 ≤ d) (hst : (st.map fun v => v.category).sum ≤ 8) (ce : CE G yX13_visit cX13_visit 4 (some .int) [.ref b, .int x0, .int x1] mi ml mr dom (fun v mi ml mr dom => J cc nL RL nm rt d G X post bc bs mi ml mr dom (pc + 3) lv (vst v st))) : J cc nL RL nm rt d G X post bc bs mi ml mr dom pc lv (.int x1 :: .int x0 :: .ref b :: st) := by
  obtain ⟨d1, h1, ct⟩ := ce
  exact cVL_82 hk hd (by omega) hst ct
theorem eVL_86 {x0 : Int32} (hk : kd b = 13) (hd : decode cc pc = .ok (.invokevirtual 86, 3)) (h15 : 15 ≤ d) (hst : (st.map fun v => v.category).sum ≤ 8) (ce : CE G yX13_fines cX13_fines 4 (some .int) [.ref b, .int x0] mi ml mr dom (fun v mi ml mr dom => J cc nL RL nm rt d G X post bc bs mi ml mr dom (pc + 3) lv (vst v st))) : J cc nL RL nm rt d G X post bc bs mi ml mr dom pc lv (.int x0 :: .ref b :: st) := by
  obtain ⟨d1, h1, ct⟩ := ce
  exact cVL_86 hk hd (by omega) hst ct
theorem eVL_90 {x0 : Int32} (hk : kd b = 13) (hd : decode cc pc = .ok (.invokevirtual 90, 3)) (h15 : 15 ≤ d) (hst : (st.map fun v => v.category).sum ≤ 8) (ce : CE G yX13_bares cX13_bares 4 (some .int) [.ref b, .int x0] mi ml mr dom (fun v mi ml mr dom => J cc nL RL nm rt d G X post bc bs mi ml mr dom (pc + 3) lv (vst v st))) : J cc nL RL nm rt d G X post bc bs mi ml mr dom pc lv (.int x0 :: .ref b :: st) := by
  obtain ⟨d1, h1, ct⟩ := ce
  exact cVL_90 hk hd (by omega) hst ct
theorem eVL_94 {x0 : Int32} (hk : kd b = 13) (hd : decode cc pc = .ok (.invokevirtual 94, 3)) (h15 : 15 ≤ d) (hst : (st.map fun v => v.category).sum ≤ 8) (ce : CE G yX13_met cX13_met 5 (some .int) [.ref b, .int x0] mi ml mr dom (fun v mi ml mr dom => J cc nL RL nm rt d G X post bc bs mi ml mr dom (pc + 3) lv (vst v st))) : J cc nL RL nm rt d G X post bc bs mi ml mr dom pc lv (.int x0 :: .ref b :: st) := by
  obtain ⟨d1, h1, ct⟩ := ce
  exact cVL_94 hk hd (by omega) hst ct
theorem eVL_98 (hk : kd b = 13) (hd : decode cc pc = .ok (.invokevirtual 98, 3)) (h15 : 15 ≤ d) (hst : (st.map fun v => v.category).sum ≤ 8) (ce : CE G yX13_busiest cX13_busiest 6 (some .int) [.ref b] mi ml mr dom (fun v mi ml mr dom => J cc nL RL nm rt d G X post bc bs mi ml mr dom (pc + 3) lv (vst v st))) : J cc nL RL nm rt d G X post bc bs mi ml mr dom pc lv (.ref b :: st) := by
  obtain ⟨d1, h1, ct⟩ := ce
  exact cVL_98 hk hd (by omega) hst ct
theorem eVL_102 {x0 : Int32} {x1 : Int32} (hk : kd b = 13) (hd : decode cc pc = .ok (.invokevirtual 102, 3)) (h15 : 15 ≤ d) (hst : (st.map fun v => v.category).sum ≤ 8) (ce : CE G yX13_apart cX13_apart 5 (some .int) [.ref b, .int x0, .int x1] mi ml mr dom (fun v mi ml mr dom => J cc nL RL nm rt d G X post bc bs mi ml mr dom (pc + 3) lv (vst v st))) : J cc nL RL nm rt d G X post bc bs mi ml mr dom pc lv (.int x1 :: .int x0 :: .ref b :: st) := by
  obtain ⟨d1, h1, ct⟩ := ce
  exact cVL_102 hk hd (by omega) hst ct
theorem eVL_106 (hk : kd b = 13) (hd : decode cc pc = .ok (.invokevirtual 106, 3)) (h15 : 15 ≤ d) (hst : (st.map fun v => v.category).sum ≤ 8) (ce : CE G yX13_tells cX13_tells 3 (some .int) [.ref b] mi ml mr dom (fun v mi ml mr dom => J cc nL RL nm rt d G X post bc bs mi ml mr dom (pc + 3) lv (vst v st))) : J cc nL RL nm rt d G X post bc bs mi ml mr dom pc lv (.ref b :: st) := by
  obtain ⟨d1, h1, ct⟩ := ce
  exact cVL_106 hk hd (by omega) hst ct
theorem eVL_110 {x0 : Int32} (hk : kd b = 13) (hd : decode cc pc = .ok (.invokevirtual 110, 3)) (h15 : 15 ≤ d) (hst : (st.map fun v => v.category).sum ≤ 8) (ce : CE G yX13_another cX13_another 2 (some .int) [.ref b, .int x0] mi ml mr dom (fun v mi ml mr dom => J cc nL RL nm rt d G X post bc bs mi ml mr dom (pc + 3) lv (vst v st))) : J cc nL RL nm rt d G X post bc bs mi ml mr dom pc lv (.int x0 :: .ref b :: st) := by
  obtain ⟨d1, h1, ct⟩ := ce
  exact cVL_110 hk hd (by omega) hst ct
theorem eVL_114 (hk : kd b = 13) (hd : decode cc pc = .ok (.invokevirtual 114, 3)) (h15 : 15 ≤ d) (hst : (st.map fun v => v.category).sum ≤ 8) (ce : CE G yX13_leastSill cX13_leastSill 2 (some .int) [.ref b] mi ml mr dom (fun v mi ml mr dom => J cc nL RL nm rt d G X post bc bs mi ml mr dom (pc + 3) lv (vst v st))) : J cc nL RL nm rt d G X post bc bs mi ml mr dom pc lv (.ref b :: st) := by
  obtain ⟨d1, h1, ct⟩ := ce
  exact cVL_114 hk hd (by omega) hst ct
theorem eVL_118 {x0 : Int32} {x1 : Int32} (hk : kd b = 13) (hd : decode cc pc = .ok (.invokevirtual 118, 3)) (h15 : 15 ≤ d) (hst : (st.map fun v => v.category).sum ≤ 8) (ce : CE G yX13_way cX13_way 3 (some .int) [.ref b, .int x0, .int x1] mi ml mr dom (fun v mi ml mr dom => J cc nL RL nm rt d G X post bc bs mi ml mr dom (pc + 3) lv (vst v st))) : J cc nL RL nm rt d G X post bc bs mi ml mr dom pc lv (.int x1 :: .int x0 :: .ref b :: st) := by
  obtain ⟨d1, h1, ct⟩ := ce
  exact cVL_118 hk hd (by omega) hst ct
theorem eVL_122 {x0 : Int32} {x1 : Int32} {x2 : Int32} (hk : kd b = 13) (hd : decode cc pc = .ok (.invokevirtual 122, 3)) (h15 : 15 ≤ d) (hst : (st.map fun v => v.category).sum ≤ 8) (ce : CE G yX13_wayAt cX13_wayAt 7 (some .int) [.ref b, .int x0, .int x1, .int x2] mi ml mr dom (fun v mi ml mr dom => J cc nL RL nm rt d G X post bc bs mi ml mr dom (pc + 3) lv (vst v st))) : J cc nL RL nm rt d G X post bc bs mi ml mr dom pc lv (.int x2 :: .int x1 :: .int x0 :: .ref b :: st) := by
  obtain ⟨d1, h1, ct⟩ := ce
  exact cVL_122 hk hd (by omega) hst ct
theorem eVL_126 (hk : kd b = 13) (hd : decode cc pc = .ok (.invokevirtual 126, 3)) (h15 : 15 ≤ d) (hst : (st.map fun v => v.category).sum ≤ 8) (ce : CE G yX13_carried cX13_carried 1 (some .int) [.ref b] mi ml mr dom (fun v mi ml mr dom => J cc nL RL nm rt d G X post bc bs mi ml mr dom (pc + 3) lv (vst v st))) : J cc nL RL nm rt d G X post bc bs mi ml mr dom pc lv (.ref b :: st) := by
  obtain ⟨d1, h1, ct⟩ := ce
  exact cVL_126 hk hd (by omega) hst ct
theorem eVL_130 {x0 : Int32} (hk : kd b = 13) (hd : decode cc pc = .ok (.invokevirtual 130, 3)) (h15 : 15 ≤ d) (hst : (st.map fun v => v.category).sum ≤ 8) (ce : CE G yX13_carrier cX13_carrier 2 (some .int) [.ref b, .int x0] mi ml mr dom (fun v mi ml mr dom => J cc nL RL nm rt d G X post bc bs mi ml mr dom (pc + 3) lv (vst v st))) : J cc nL RL nm rt d G X post bc bs mi ml mr dom pc lv (.int x0 :: .ref b :: st) := by
  obtain ⟨d1, h1, ct⟩ := ce
  exact cVL_130 hk hd (by omega) hst ct
theorem eVL_134 {x0 : Int32} (hk : kd b = 13) (hd : decode cc pc = .ok (.invokevirtual 134, 3)) (h15 : 15 ≤ d) (hst : (st.map fun v => v.category).sum ≤ 8) (ce : CE G yX13_alone cX13_alone 4 (some .int) [.ref b, .int x0] mi ml mr dom (fun v mi ml mr dom => J cc nL RL nm rt d G X post bc bs mi ml mr dom (pc + 3) lv (vst v st))) : J cc nL RL nm rt d G X post bc bs mi ml mr dom pc lv (.int x0 :: .ref b :: st) := by
  obtain ⟨d1, h1, ct⟩ := ce
  exact cVL_134 hk hd (by omega) hst ct
theorem eVL_138 (hk : kd b = 13) (hd : decode cc pc = .ok (.invokevirtual 138, 3)) (h15 : 15 ≤ d) (hst : (st.map fun v => v.category).sum ≤ 8) (ce : CE G yX13_stuck cX13_stuck 5 (some .int) [.ref b] mi ml mr dom (fun v mi ml mr dom => J cc nL RL nm rt d G X post bc bs mi ml mr dom (pc + 3) lv (vst v st))) : J cc nL RL nm rt d G X post bc bs mi ml mr dom pc lv (.ref b :: st) := by
  obtain ⟨d1, h1, ct⟩ := ce
  exact cVL_138 hk hd (by omega) hst ct
theorem eVL_142 {x0 : Int32} (hk : kd b = 13) (hd : decode cc pc = .ok (.invokevirtual 142, 3)) (h15 : 15 ≤ d) (hst : (st.map fun v => v.category).sum ≤ 8) (ce : CE G yX13_hands cX13_hands 4 (some .int) [.ref b, .int x0] mi ml mr dom (fun v mi ml mr dom => J cc nL RL nm rt d G X post bc bs mi ml mr dom (pc + 3) lv (vst v st))) : J cc nL RL nm rt d G X post bc bs mi ml mr dom pc lv (.int x0 :: .ref b :: st) := by
  obtain ⟨d1, h1, ct⟩ := ce
  exact cVL_142 hk hd (by omega) hst ct
theorem eVL_146 {x0 : Int32} (hk : kd b = 13) (hd : decode cc pc = .ok (.invokevirtual 146, 3)) (h15 : 15 ≤ d) (hst : (st.map fun v => v.category).sum ≤ 8) (ce : CE G yX13_round cX13_round 5 (some .int) [.ref b, .int x0] mi ml mr dom (fun v mi ml mr dom => J cc nL RL nm rt d G X post bc bs mi ml mr dom (pc + 3) lv (vst v st))) : J cc nL RL nm rt d G X post bc bs mi ml mr dom pc lv (.int x0 :: .ref b :: st) := by
  obtain ⟨d1, h1, ct⟩ := ce
  exact cVL_146 hk hd (by omega) hst ct
theorem eVL_150 (hk : kd b = 13) (hd : decode cc pc = .ok (.invokevirtual 150, 3)) (h15 : 15 ≤ d) (hst : (st.map fun v => v.category).sum ≤ 8) (ce : CE G yX13_pieces cX13_pieces 3 (some .int) [.ref b] mi ml mr dom (fun v mi ml mr dom => J cc nL RL nm rt d G X post bc bs mi ml mr dom (pc + 3) lv (vst v st))) : J cc nL RL nm rt d G X post bc bs mi ml mr dom pc lv (.ref b :: st) := by
  obtain ⟨d1, h1, ct⟩ := ce
  exact cVL_150 hk hd (by omega) hst ct
theorem eVL_154 (hk : kd b = 13) (hd : decode cc pc = .ok (.invokevirtual 154, 3)) (h15 : 15 ≤ d) (hst : (st.map fun v => v.category).sum ≤ 8) (ce : CE G yX13_fits cX13_fits 2 (some .int) [.ref b] mi ml mr dom (fun v mi ml mr dom => J cc nL RL nm rt d G X post bc bs mi ml mr dom (pc + 3) lv (vst v st))) : J cc nL RL nm rt d G X post bc bs mi ml mr dom pc lv (.ref b :: st) := by
  obtain ⟨d1, h1, ct⟩ := ce
  exact cVL_154 hk hd (by omega) hst ct
theorem eVL_158 {x0 : Int32} (hk : kd b = 13) (hd : decode cc pc = .ok (.invokevirtual 158, 3)) (h15 : 15 ≤ d) (hst : (st.map fun v => v.category).sum ≤ 8) (ce : CE G yX13_could cX13_could 2 (some .int) [.ref b, .int x0] mi ml mr dom (fun v mi ml mr dom => J cc nL RL nm rt d G X post bc bs mi ml mr dom (pc + 3) lv (vst v st))) : J cc nL RL nm rt d G X post bc bs mi ml mr dom pc lv (.int x0 :: .ref b :: st) := by
  obtain ⟨d1, h1, ct⟩ := ce
  exact cVL_158 hk hd (by omega) hst ct
theorem eVL_162 {x0 : Int32} (hk : kd b = 13) (hd : decode cc pc = .ok (.invokevirtual 162, 3)) (h15 : 15 ≤ d) (hst : (st.map fun v => v.category).sum ≤ 8) (ce : CE G yX13_surely cX13_surely 3 (some .int) [.ref b, .int x0] mi ml mr dom (fun v mi ml mr dom => J cc nL RL nm rt d G X post bc bs mi ml mr dom (pc + 3) lv (vst v st))) : J cc nL RL nm rt d G X post bc bs mi ml mr dom pc lv (.int x0 :: .ref b :: st) := by
  obtain ⟨d1, h1, ct⟩ := ce
  exact cVL_162 hk hd (by omega) hst ct
theorem eVL_166 (hk : kd b = 13) (hd : decode cc pc = .ok (.invokevirtual 166, 3)) (h15 : 15 ≤ d) (hst : (st.map fun v => v.category).sum ≤ 8) (ce : CE G yX13_ask cX13_ask 7 (some .int) [.ref b] mi ml mr dom (fun v mi ml mr dom => J cc nL RL nm rt d G X post bc bs mi ml mr dom (pc + 3) lv (vst v st))) : J cc nL RL nm rt d G X post bc bs mi ml mr dom pc lv (.ref b :: st) := by
  obtain ⟨d1, h1, ct⟩ := ce
  exact cVL_166 hk hd (by omega) hst ct
theorem eVL_171 {x0 : Int32} {x1 : Int32} {x2 : Int32} (hk : kd b = 13) (hd : decode cc pc = .ok (.invokevirtual 171, 3)) (h15 : 15 ≤ d) (hst : (st.map fun v => v.category).sum ≤ 8) (ce : CE G yX13_shop cX13_shop 4 (some .int) [.ref b, .int x0, .int x1, .int x2] mi ml mr dom (fun v mi ml mr dom => J cc nL RL nm rt d G X post bc bs mi ml mr dom (pc + 3) lv (vst v st))) : J cc nL RL nm rt d G X post bc bs mi ml mr dom pc lv (.int x2 :: .int x1 :: .int x0 :: .ref b :: st) := by
  obtain ⟨d1, h1, ct⟩ := ce
  exact cVL_171 hk hd (by omega) hst ct
theorem eVL_175 (hk : kd b = 13) (hd : decode cc pc = .ok (.invokevirtual 175, 3)) (h15 : 15 ≤ d) (hst : (st.map fun v => v.category).sum ≤ 8) (ce : CE G yX13_rests cX13_rests 3 (some .int) [.ref b] mi ml mr dom (fun v mi ml mr dom => J cc nL RL nm rt d G X post bc bs mi ml mr dom (pc + 3) lv (vst v st))) : J cc nL RL nm rt d G X post bc bs mi ml mr dom pc lv (.ref b :: st) := by
  obtain ⟨d1, h1, ct⟩ := ce
  exact cVL_175 hk hd (by omega) hst ct
theorem eVL_179 (hk : kd b = 13) (hd : decode cc pc = .ok (.invokevirtual 179, 3)) (h15 : 15 ≤ d) (hst : (st.map fun v => v.category).sum ≤ 8) (ce : CE G yX13_rest cX13_rest 2 (some .int) [.ref b] mi ml mr dom (fun v mi ml mr dom => J cc nL RL nm rt d G X post bc bs mi ml mr dom (pc + 3) lv (vst v st))) : J cc nL RL nm rt d G X post bc bs mi ml mr dom pc lv (.ref b :: st) := by
  obtain ⟨d1, h1, ct⟩ := ce
  exact cVL_179 hk hd (by omega) hst ct
theorem eVL_183 {x0 : Int32} (hk : kd b = 13) (hd : decode cc pc = .ok (.invokevirtual 183, 3)) (h15 : 15 ≤ d) (hst : (st.map fun v => v.category).sum ≤ 8) (ce : CE G yX13_day cX13_day 2 (some .int) [.ref b, .int x0] mi ml mr dom (fun v mi ml mr dom => J cc nL RL nm rt d G X post bc bs mi ml mr dom (pc + 3) lv (vst v st))) : J cc nL RL nm rt d G X post bc bs mi ml mr dom pc lv (.int x0 :: .ref b :: st) := by
  obtain ⟨d1, h1, ct⟩ := ce
  exact cVL_183 hk hd (by omega) hst ct
theorem eVL_187 {x0 : Int32} {x1 : Int32} {x2 : Int32} (hk : kd b = 13) (hd : decode cc pc = .ok (.invokevirtual 187, 3)) (h15 : 15 ≤ d) (hst : (st.map fun v => v.category).sum ≤ 8) (ce : CE G yX13_dayOf cX13_dayOf 6 (some .int) [.ref b, .int x0, .int x1, .int x2] mi ml mr dom (fun v mi ml mr dom => J cc nL RL nm rt d G X post bc bs mi ml mr dom (pc + 3) lv (vst v st))) : J cc nL RL nm rt d G X post bc bs mi ml mr dom pc lv (.int x2 :: .int x1 :: .int x0 :: .ref b :: st) := by
  obtain ⟨d1, h1, ct⟩ := ce
  exact cVL_187 hk hd (by omega) hst ct
theorem eVL_191 {x0 : Int32} {x1 : Int32} (hk : kd b = 13) (hd : decode cc pc = .ok (.invokevirtual 191, 3)) (h15 : 15 ≤ d) (hst : (st.map fun v => v.category).sum ≤ 8) (ce : CE G yX13_go cX13_go 4 (some .int) [.ref b, .int x0, .int x1] mi ml mr dom (fun v mi ml mr dom => J cc nL RL nm rt d G X post bc bs mi ml mr dom (pc + 3) lv (vst v st))) : J cc nL RL nm rt d G X post bc bs mi ml mr dom pc lv (.int x1 :: .int x0 :: .ref b :: st) := by
  obtain ⟨d1, h1, ct⟩ := ce
  exact cVL_191 hk hd (by omega) hst ct
theorem eVL_196 {x0 : Int32} {x1 : Int32} (hk : kd b = 13) (hd : decode cc pc = .ok (.invokevirtual 196, 3)) (h15 : 15 ≤ d) (hst : (st.map fun v => v.category).sum ≤ 8) (ce : CE G yX13_hand cX13_hand 4 (some .boolean) [.ref b, .int x0, .int x1] mi ml mr dom (fun v mi ml mr dom => J cc nL RL nm rt d G X post bc bs mi ml mr dom (pc + 3) lv (vst v st))) : J cc nL RL nm rt d G X post bc bs mi ml mr dom pc lv (.int x1 :: .int x0 :: .ref b :: st) := by
  obtain ⟨d1, h1, ct⟩ := ce
  exact cVL_196 hk hd (by omega) hst ct
theorem eVL_200 {x0 : Int32} (hk : kd b = 13) (hd : decode cc pc = .ok (.invokevirtual 200, 3)) (h15 : 15 ≤ d) (hst : (st.map fun v => v.category).sum ≤ 8) (ce : CE G yX13_hours cX13_hours 2 (some .int) [.ref b, .int x0] mi ml mr dom (fun v mi ml mr dom => J cc nL RL nm rt d G X post bc bs mi ml mr dom (pc + 3) lv (vst v st))) : J cc nL RL nm rt d G X post bc bs mi ml mr dom pc lv (.int x0 :: .ref b :: st) := by
  obtain ⟨d1, h1, ct⟩ := ce
  exact cVL_200 hk hd (by omega) hst ct
theorem eVL_205 (hk : kd b = 13) (hd : decode cc pc = .ok (.invokevirtual 205, 3)) (h15 : 15 ≤ d) (hst : (st.map fun v => v.category).sum ≤ 8) (ce : CE G yX13_undo cX13_undo 2 (some .boolean) [.ref b] mi ml mr dom (fun v mi ml mr dom => J cc nL RL nm rt d G X post bc bs mi ml mr dom (pc + 3) lv (vst v st))) : J cc nL RL nm rt d G X post bc bs mi ml mr dom pc lv (.ref b :: st) := by
  obtain ⟨d1, h1, ct⟩ := ce
  exact cVL_205 hk hd (by omega) hst ct
theorem eVL_209 (hk : kd b = 13) (hd : decode cc pc = .ok (.invokevirtual 209, 3)) (h15 : 15 ≤ d) (hst : (st.map fun v => v.category).sum ≤ 8) (ce : CE G yX13_image cX13_image 2 (some .int) [.ref b] mi ml mr dom (fun v mi ml mr dom => J cc nL RL nm rt d G X post bc bs mi ml mr dom (pc + 3) lv (vst v st))) : J cc nL RL nm rt d G X post bc bs mi ml mr dom pc lv (.ref b :: st) := by
  obtain ⟨d1, h1, ct⟩ := ce
  exact cVL_209 hk hd (by omega) hst ct
theorem eVL_214 {x0 : Int32} (hk : kd b = 13) (hd : decode cc pc = .ok (.invokevirtual 214, 3)) (h15 : 15 ≤ d) (hst : (st.map fun v => v.category).sum ≤ 8) (ce : CE G yX13_back cX13_back 3 (some .boolean) [.ref b, .int x0] mi ml mr dom (fun v mi ml mr dom => J cc nL RL nm rt d G X post bc bs mi ml mr dom (pc + 3) lv (vst v st))) : J cc nL RL nm rt d G X post bc bs mi ml mr dom pc lv (.int x0 :: .ref b :: st) := by
  obtain ⟨d1, h1, ct⟩ := ce
  exact cVL_214 hk hd (by omega) hst ct
theorem eVL_220 {x0 : Int32} (hk : kd b = 13) (hd : decode cc pc = .ok (.invokevirtual 220, 3)) (h15 : 15 ≤ d) (hst : (st.map fun v => v.category).sum ≤ 8) (ce : CE G yX13_led cX13_led 4 (some .int) [.ref b, .int x0] mi ml mr dom (fun v mi ml mr dom => J cc nL RL nm rt d G X post bc bs mi ml mr dom (pc + 3) lv (vst v st))) : J cc nL RL nm rt d G X post bc bs mi ml mr dom pc lv (.int x0 :: .ref b :: st) := by
  obtain ⟨d1, h1, ct⟩ := ce
  exact cVL_220 hk hd (by omega) hst ct
theorem eVL_227 {x0 : Int32} (hk : kd b = 13) (hd : decode cc pc = .ok (.invokevirtual 227, 3)) (h15 : 15 ≤ d) (hst : (st.map fun v => v.category).sum ≤ 8) (ce : CE G yX13_size cX13_size 2 (some .int) [.ref b, .int x0] mi ml mr dom (fun v mi ml mr dom => J cc nL RL nm rt d G X post bc bs mi ml mr dom (pc + 3) lv (vst v st))) : J cc nL RL nm rt d G X post bc bs mi ml mr dom pc lv (.int x0 :: .ref b :: st) := by
  obtain ⟨d1, h1, ct⟩ := ce
  exact cVL_227 hk hd (by omega) hst ct
theorem eVL_231 (hk : kd b = 13) (hd : decode cc pc = .ok (.invokevirtual 231, 3)) (h15 : 15 ≤ d) (hst : (st.map fun v => v.category).sum ≤ 8) (ce : CE G yX13_trouble cX13_trouble 1 (some .int) [.ref b] mi ml mr dom (fun v mi ml mr dom => J cc nL RL nm rt d G X post bc bs mi ml mr dom (pc + 3) lv (vst v st))) : J cc nL RL nm rt d G X post bc bs mi ml mr dom pc lv (.ref b :: st) := by
  obtain ⟨d1, h1, ct⟩ := ce
  exact cVL_231 hk hd (by omega) hst ct
theorem tVL_27 {x0 : Int32} (hk : kd b = 13) (hd : decode cc pc = .ok (.invokevirtual 27, 3)) (h15 : 15 ≤ d) (hbc : 20 ≤ bc) (hbs : 260 ≤ bs) (hst : (st.map fun v => v.category).sum ≤ 8) (ct : CT G 14 20 260 yX13_town cX13_town 3 (some .int) [.ref b, .int x0] mi ml mr dom (fun v mi ml mr dom => J cc nL RL nm rt d G X post (bc - 20) (bs - 260) mi ml mr dom (pc + 3) lv (vst v st))) : J cc nL RL nm rt d G X post bc bs mi ml mr dom pc lv (.int x0 :: .ref b :: st) := j_callV (mc' := 20) (ms' := 260) (n := 1) hk (by decide) rfl wd122 wd1463 wd1464 wd1465 wd1466 ⟨by decide +kernel, by decide +kernel, by decide +kernel⟩ rfl (by decide) hd h15 hbc hbs hst rfl ct
theorem idx {k : Nat} (hi : 6 * c + 6 ≤ L) (hL : L ≤ 3072) (hk : k < 6) : vp_in (nI (6 * c) + nI k) L := by
  rw [nI_add]; exact vp_in_nI (by omega) (by omega)
theorem la_0 (hx : SCX X G L xs) (hi : 6 * c + 6 ≤ L) (hL : L ≤ 3072) (h15 : 15 ≤ d) (hc : c < 99999) (hZ : LAZ c mi ml mr dom) (hs : ∀ mi2 ml2 mr2 dom2, LAZ (c + 1) mi2 ml2 mr2 dom2 → J cL_law 7 RL nm rt d G X post bc bs mi2 ml2 mr2 dom2 1685 [some (.ref 598), some (.ref 0), some (.ref 1000), some (.ref 601), some (.int (nI (6 * c))), none, none] []) : J cL_law 7 RL nm rt d G X post bc bs mi ml mr dom 256 [some (.ref 598), some (.ref 0), some (.ref 1000), some (.ref 601), some (.int (nI (6 * c))), none, none] [] := by
  refine j_aload_n dL_law_256 rfl rfl ?_
  refine j_aload_n dL_law_257 rfl rfl ?_
  refine j_iload dL_law_258 rfl ?_
  refine j_iconst (v := 1) dL_law_260 (by decide) ?_
  refine j_iadd dL_law_261 ?_
  refine j_sld hx (idx (k := 1) hi hL (by decide)) dL_law_262 ?_
  refine j_aload_n dL_law_263 rfl rfl ?_
  refine j_iload dL_law_264 rfl ?_
  refine j_iconst (v := 2) dL_law_266 (by decide) ?_
  refine j_iadd dL_law_267 ?_
  refine j_sld hx (idx (k := 2) hi hL (by decide)) dL_law_268 ?_
  refine j_aload_n dL_law_269 rfl rfl ?_
  refine j_iload dL_law_270 rfl ?_
  refine j_iconst (v := 3) dL_law_272 (by decide) ?_
  refine j_iadd dL_law_273 ?_
  refine j_sld hx (idx (k := 3) hi hL (by decide)) dL_law_274 ?_
  refine j_aload_n dL_law_275 rfl rfl ?_
  refine j_iload dL_law_276 rfl ?_
  refine j_iconst (v := 4) dL_law_278 (by decide) ?_
  refine j_iadd dL_law_279 ?_
  refine j_sld hx (idx (k := 4) hi hL (by decide)) dL_law_280 ?_
  refine j_aload_n dL_law_281 rfl rfl ?_
  refine j_iload dL_law_282 rfl ?_
  refine j_iconst (v := 5) dL_law_284 (by decide) ?_
  refine j_iadd dL_law_285 ?_
  refine j_sld hx (idx (k := 5) hi hL (by decide)) dL_law_286 ?_
  refine eVL_19 rfl dL_law_287 h15 (Nat.le_of_ble_eq_true rfl) (du_feed hZ _ (fun x mi1 ml1 mr1 dom1 dm => ?_))
  refine j_aload_n dL_law_290 rfl rfl ?_
  refine j_aload_n dL_law_291 rfl rfl ?_
  refine j_iload dL_law_292 rfl ?_
  refine j_iconst (v := 1) dL_law_294 (by decide) ?_
  refine j_iadd dL_law_295 ?_
  refine j_sld hx (idx (k := 1) hi hL (by decide)) dL_law_296 ?_
  refine j_aload_n dL_law_297 rfl rfl ?_
  refine j_iload dL_law_298 rfl ?_
  refine j_iconst (v := 2) dL_law_300 (by decide) ?_
  refine j_iadd dL_law_301 ?_
  refine j_sld hx (idx (k := 2) hi hL (by decide)) dL_law_302 ?_
  refine j_aload_n dL_law_303 rfl rfl ?_
  refine j_iload dL_law_304 rfl ?_
  refine j_iconst (v := 3) dL_law_306 (by decide) ?_
  refine j_iadd dL_law_307 ?_
  refine j_sld hx (idx (k := 3) hi hL (by decide)) dL_law_308 ?_
  refine j_aload_n dL_law_309 rfl rfl ?_
  refine j_iload dL_law_310 rfl ?_
  refine j_iconst (v := 4) dL_law_312 (by decide) ?_
  refine j_iadd dL_law_313 ?_
  refine j_sld hx (idx (k := 4) hi hL (by decide)) dL_law_314 ?_
  refine j_aload_n dL_law_315 rfl rfl ?_
  refine j_iload dL_law_316 rfl ?_
  refine j_iconst (v := 5) dL_law_318 (by decide) ?_
  refine j_iadd dL_law_319 ?_
  refine j_sld hx (idx (k := 5) hi hL (by decide)) dL_law_320 ?_
  refine eVL_23 rfl dL_law_321 h15 (Nat.le_of_ble_eq_true rfl) (dm _ (fun mi2 ml2 mr2 dom2 hZ2 => ?_))
  exact j_icmp_eq (tgt := 1685) dL_law_324 (by decide) (fun _ => hs _ _ _ _ hZ2) (fun h => absurd rfl h)
theorem la_1 (hx : SCX X G L xs) (hi : 6 * c + 6 ≤ L) (hL : L ≤ 3072) (h15 : 15 ≤ d) (hc : c < 99999) (hZ : LAZ c mi ml mr dom) (hbc : 20 ≤ bc) (hbs : 260 ≤ bs) (hs : ∀ mi2 ml2 mr2 dom2, LAZ (c + 1) mi2 ml2 mr2 dom2 → J cL_law 7 RL nm rt d G X post (bc - 20) (bs - 260) mi2 ml2 mr2 dom2 1685 [some (.ref 598), some (.ref 0), some (.ref 1000), some (.ref 601), some (.int (nI (6 * c))), none, none] []) : J cL_law 7 RL nm rt d G X post bc bs mi ml mr dom 329 [some (.ref 598), some (.ref 0), some (.ref 1000), some (.ref 601), some (.int (nI (6 * c))), none, none] [] := by
  refine j_aload_n dL_law_329 rfl rfl ?_
  refine j_aload_n dL_law_330 rfl rfl ?_
  refine j_iload dL_law_331 rfl ?_
  refine j_iconst (v := 1) dL_law_333 (by decide) ?_
  refine j_iadd dL_law_334 ?_
  refine j_sld hx (idx (k := 1) hi hL (by decide)) dL_law_335 ?_
  refine eVL_24 rfl dL_law_336 h15 (Nat.le_of_ble_eq_true rfl) (du_town hZ _ (fun x mi1 ml1 mr1 dom1 dm => ?_))
  refine j_aload_n dL_law_339 rfl rfl ?_
  refine j_aload_n dL_law_340 rfl rfl ?_
  refine j_iload dL_law_341 rfl ?_
  refine j_iconst (v := 1) dL_law_343 (by decide) ?_
  refine j_iadd dL_law_344 ?_
  refine j_sld hx (idx (k := 1) hi hL (by decide)) dL_law_345 ?_
  refine tVL_27 rfl dL_law_346 h15 hbc hbs (Nat.le_of_ble_eq_true rfl) (dm _ (fun mi2 ml2 mr2 dom2 hZ2 => ?_))
  exact j_icmp_eq (tgt := 1685) dL_law_349 (by decide) (fun _ => hs _ _ _ _ hZ2) (fun h => absurd rfl h)
theorem la_2 (hx : SCX X G L xs) (hi : 6 * c + 6 ≤ L) (hL : L ≤ 3072) (h15 : 15 ≤ d) (hc : c < 99999) (hZ : LAZ c mi ml mr dom) (hs : ∀ mi2 ml2 mr2 dom2, LAZ (c + 1) mi2 ml2 mr2 dom2 → J cL_law 7 RL nm rt d G X post bc bs mi2 ml2 mr2 dom2 1685 [some (.ref 598), some (.ref 0), some (.ref 1000), some (.ref 601), some (.int (nI (6 * c))), none, none] []) : J cL_law 7 RL nm rt d G X post bc bs mi ml mr dom 354 [some (.ref 598), some (.ref 0), some (.ref 1000), some (.ref 601), some (.int (nI (6 * c))), none, none] [] := by
  refine j_aload_n dL_law_354 rfl rfl ?_
  refine eVL_28 rfl dL_law_355 h15 (Nat.le_of_ble_eq_true rfl) (du_fault hc hZ _ (fun x mi1 ml1 mr1 dom1 dm => ?_))
  refine j_aload_n dL_law_358 rfl rfl ?_
  refine eVL_32 rfl dL_law_359 h15 (Nat.le_of_ble_eq_true rfl) (dm _ (fun mi2 ml2 mr2 dom2 hZ2 => ?_))
  exact j_icmp_eq (tgt := 1685) dL_law_362 (by decide) (fun _ => hs _ _ _ _ hZ2) (fun h => absurd rfl h)
theorem la_3 (hx : SCX X G L xs) (hi : 6 * c + 6 ≤ L) (hL : L ≤ 3072) (h15 : 15 ≤ d) (hc : c < 99999) (hZ : LAZ c mi ml mr dom) (hs : ∀ mi2 ml2 mr2 dom2, LAZ (c + 1) mi2 ml2 mr2 dom2 → J cL_law 7 RL nm rt d G X post bc bs mi2 ml2 mr2 dom2 1685 [some (.ref 598), some (.ref 0), some (.ref 1000), some (.ref 601), some (.int (nI (6 * c))), none, none] []) : J cL_law 7 RL nm rt d G X post bc bs mi ml mr dom 367 [some (.ref 598), some (.ref 0), some (.ref 1000), some (.ref 601), some (.int (nI (6 * c))), none, none] [] := by
  refine j_aload_n dL_law_367 rfl rfl ?_
  refine eVL_33 rfl dL_law_368 h15 (Nat.le_of_ble_eq_true rfl) (du_where hc hZ _ (fun x mi1 ml1 mr1 dom1 dm => ?_))
  refine j_aload_n dL_law_371 rfl rfl ?_
  refine eVL_36 rfl dL_law_372 h15 (Nat.le_of_ble_eq_true rfl) (dm _ (fun mi2 ml2 mr2 dom2 hZ2 => ?_))
  exact j_icmp_eq (tgt := 1685) dL_law_375 (by decide) (fun _ => hs _ _ _ _ hZ2) (fun h => absurd rfl h)
theorem la_4 (hx : SCX X G L xs) (hi : 6 * c + 6 ≤ L) (hL : L ≤ 3072) (h15 : 15 ≤ d) (hc : c < 99999) (hZ : LAZ c mi ml mr dom) (hs : ∀ mi2 ml2 mr2 dom2, LAZ (c + 1) mi2 ml2 mr2 dom2 → J cL_law 7 RL nm rt d G X post bc bs mi2 ml2 mr2 dom2 1685 [some (.ref 598), some (.ref 0), some (.ref 1000), some (.ref 601), some (.int (nI (6 * c))), none, none] []) : J cL_law 7 RL nm rt d G X post bc bs mi ml mr dom 380 [some (.ref 598), some (.ref 0), some (.ref 1000), some (.ref 601), some (.int (nI (6 * c))), none, none] [] := by
  refine j_aload_n dL_law_380 rfl rfl ?_
  refine j_aload_n dL_law_381 rfl rfl ?_
  refine j_iload dL_law_382 rfl ?_
  refine j_iconst (v := 1) dL_law_384 (by decide) ?_
  refine j_iadd dL_law_385 ?_
  refine j_sld hx (idx (k := 1) hi hL (by decide)) dL_law_386 ?_
  refine j_aload_n dL_law_387 rfl rfl ?_
  refine j_iload dL_law_388 rfl ?_
  refine j_iconst (v := 2) dL_law_390 (by decide) ?_
  refine j_iadd dL_law_391 ?_
  refine j_sld hx (idx (k := 2) hi hL (by decide)) dL_law_392 ?_
  refine eVL_37 rfl dL_law_393 h15 (Nat.le_of_ble_eq_true rfl) (du_house hc hZ _ (fun x mi1 ml1 mr1 dom1 dm => ?_))
  refine j_aload_n dL_law_396 rfl rfl ?_
  refine j_aload_n dL_law_397 rfl rfl ?_
  refine j_iload dL_law_398 rfl ?_
  refine j_iconst (v := 1) dL_law_400 (by decide) ?_
  refine j_iadd dL_law_401 ?_
  refine j_sld hx (idx (k := 1) hi hL (by decide)) dL_law_402 ?_
  refine j_aload_n dL_law_403 rfl rfl ?_
  refine j_iload dL_law_404 rfl ?_
  refine j_iconst (v := 2) dL_law_406 (by decide) ?_
  refine j_iadd dL_law_407 ?_
  refine j_sld hx (idx (k := 2) hi hL (by decide)) dL_law_408 ?_
  refine eVL_41 rfl dL_law_409 h15 (Nat.le_of_ble_eq_true rfl) (dm _ (fun mi2 ml2 mr2 dom2 hZ2 => ?_))
  exact j_icmp_eq (tgt := 1685) dL_law_412 (by decide) (fun _ => hs _ _ _ _ hZ2) (fun h => absurd rfl h)
theorem la_5 (hx : SCX X G L xs) (hi : 6 * c + 6 ≤ L) (hL : L ≤ 3072) (h15 : 15 ≤ d) (hc : c < 99999) (hZ : LAZ c mi ml mr dom) (hs : ∀ mi2 ml2 mr2 dom2, LAZ (c + 1) mi2 ml2 mr2 dom2 → J cL_law 7 RL nm rt d G X post bc bs mi2 ml2 mr2 dom2 1685 [some (.ref 598), some (.ref 0), some (.ref 1000), some (.ref 601), some (.int (nI (6 * c))), none, none] []) : J cL_law 7 RL nm rt d G X post bc bs mi ml mr dom 417 [some (.ref 598), some (.ref 0), some (.ref 1000), some (.ref 601), some (.int (nI (6 * c))), none, none] [] := by
  refine j_aload_n dL_law_417 rfl rfl ?_
  refine j_aload_n dL_law_418 rfl rfl ?_
  refine j_iload dL_law_419 rfl ?_
  refine j_iconst (v := 1) dL_law_421 (by decide) ?_
  refine j_iadd dL_law_422 ?_
  refine j_sld hx (idx (k := 1) hi hL (by decide)) dL_law_423 ?_
  refine j_aload_n dL_law_424 rfl rfl ?_
  refine j_iload dL_law_425 rfl ?_
  refine j_iconst (v := 2) dL_law_427 (by decide) ?_
  refine j_iadd dL_law_428 ?_
  refine j_sld hx (idx (k := 2) hi hL (by decide)) dL_law_429 ?_
  refine eVL_42 rfl dL_law_430 h15 (Nat.le_of_ble_eq_true rfl) (du_person hc hZ _ (fun x mi1 ml1 mr1 dom1 dm => ?_))
  refine j_aload_n dL_law_433 rfl rfl ?_
  refine j_aload_n dL_law_434 rfl rfl ?_
  refine j_iload dL_law_435 rfl ?_
  refine j_iconst (v := 1) dL_law_437 (by decide) ?_
  refine j_iadd dL_law_438 ?_
  refine j_sld hx (idx (k := 1) hi hL (by decide)) dL_law_439 ?_
  refine j_aload_n dL_law_440 rfl rfl ?_
  refine j_iload dL_law_441 rfl ?_
  refine j_iconst (v := 2) dL_law_443 (by decide) ?_
  refine j_iadd dL_law_444 ?_
  refine j_sld hx (idx (k := 2) hi hL (by decide)) dL_law_445 ?_
  refine eVL_45 rfl dL_law_446 h15 (Nat.le_of_ble_eq_true rfl) (dm _ (fun mi2 ml2 mr2 dom2 hZ2 => ?_))
  exact j_icmp_eq (tgt := 1685) dL_law_449 (by decide) (fun _ => hs _ _ _ _ hZ2) (fun h => absurd rfl h)
theorem la_6 (hx : SCX X G L xs) (hi : 6 * c + 6 ≤ L) (hL : L ≤ 3072) (h15 : 15 ≤ d) (hc : c < 99999) (hZ : LAZ c mi ml mr dom) (hs : ∀ mi2 ml2 mr2 dom2, LAZ (c + 1) mi2 ml2 mr2 dom2 → J cL_law 7 RL nm rt d G X post bc bs mi2 ml2 mr2 dom2 1685 [some (.ref 598), some (.ref 0), some (.ref 1000), some (.ref 601), some (.int (nI (6 * c))), none, none] []) : J cL_law 7 RL nm rt d G X post bc bs mi ml mr dom 454 [some (.ref 598), some (.ref 0), some (.ref 1000), some (.ref 601), some (.int (nI (6 * c))), none, none] [] := by
  refine j_aload_n dL_law_454 rfl rfl ?_
  refine j_aload_n dL_law_455 rfl rfl ?_
  refine j_iload dL_law_456 rfl ?_
  refine j_iconst (v := 1) dL_law_458 (by decide) ?_
  refine j_iadd dL_law_459 ?_
  refine j_sld hx (idx (k := 1) hi hL (by decide)) dL_law_460 ?_
  refine j_aload_n dL_law_461 rfl rfl ?_
  refine j_iload dL_law_462 rfl ?_
  refine j_iconst (v := 2) dL_law_464 (by decide) ?_
  refine j_iadd dL_law_465 ?_
  refine j_sld hx (idx (k := 2) hi hL (by decide)) dL_law_466 ?_
  refine eVL_46 rfl dL_law_467 h15 (Nat.le_of_ble_eq_true rfl) (du_mark hc hZ _ (fun x mi1 ml1 mr1 dom1 dm => ?_))
  refine j_aload_n dL_law_470 rfl rfl ?_
  refine j_aload_n dL_law_471 rfl rfl ?_
  refine j_iload dL_law_472 rfl ?_
  refine j_iconst (v := 1) dL_law_474 (by decide) ?_
  refine j_iadd dL_law_475 ?_
  refine j_sld hx (idx (k := 1) hi hL (by decide)) dL_law_476 ?_
  refine j_aload_n dL_law_477 rfl rfl ?_
  refine j_iload dL_law_478 rfl ?_
  refine j_iconst (v := 2) dL_law_480 (by decide) ?_
  refine j_iadd dL_law_481 ?_
  refine j_sld hx (idx (k := 2) hi hL (by decide)) dL_law_482 ?_
  refine eVL_49 rfl dL_law_483 h15 (Nat.le_of_ble_eq_true rfl) (dm _ (fun mi2 ml2 mr2 dom2 hZ2 => ?_))
  exact j_icmp_eq (tgt := 1685) dL_law_486 (by decide) (fun _ => hs _ _ _ _ hZ2) (fun h => absurd rfl h)
theorem la_7 (hx : SCX X G L xs) (hi : 6 * c + 6 ≤ L) (hL : L ≤ 3072) (h15 : 15 ≤ d) (hc : c < 99999) (hZ : LAZ c mi ml mr dom) (hs : ∀ mi2 ml2 mr2 dom2, LAZ (c + 1) mi2 ml2 mr2 dom2 → J cL_law 7 RL nm rt d G X post bc bs mi2 ml2 mr2 dom2 1685 [some (.ref 598), some (.ref 0), some (.ref 1000), some (.ref 601), some (.int (nI (6 * c))), none, none] []) : J cL_law 7 RL nm rt d G X post bc bs mi ml mr dom 491 [some (.ref 598), some (.ref 0), some (.ref 1000), some (.ref 601), some (.int (nI (6 * c))), none, none] [] := by
  refine j_aload_n dL_law_491 rfl rfl ?_
  refine j_aload_n dL_law_492 rfl rfl ?_
  refine j_iload dL_law_493 rfl ?_
  refine j_iconst (v := 1) dL_law_495 (by decide) ?_
  refine j_iadd dL_law_496 ?_
  refine j_sld hx (idx (k := 1) hi hL (by decide)) dL_law_497 ?_
  refine j_aload_n dL_law_498 rfl rfl ?_
  refine j_iload dL_law_499 rfl ?_
  refine j_iconst (v := 2) dL_law_501 (by decide) ?_
  refine j_iadd dL_law_502 ?_
  refine j_sld hx (idx (k := 2) hi hL (by decide)) dL_law_503 ?_
  refine eVL_50 rfl dL_law_504 h15 (Nat.le_of_ble_eq_true rfl) (du_good hc hZ _ (fun x mi1 ml1 mr1 dom1 dm => ?_))
  refine j_aload_n dL_law_507 rfl rfl ?_
  refine j_aload_n dL_law_508 rfl rfl ?_
  refine j_iload dL_law_509 rfl ?_
  refine j_iconst (v := 1) dL_law_511 (by decide) ?_
  refine j_iadd dL_law_512 ?_
  refine j_sld hx (idx (k := 1) hi hL (by decide)) dL_law_513 ?_
  refine j_aload_n dL_law_514 rfl rfl ?_
  refine j_iload dL_law_515 rfl ?_
  refine j_iconst (v := 2) dL_law_517 (by decide) ?_
  refine j_iadd dL_law_518 ?_
  refine j_sld hx (idx (k := 2) hi hL (by decide)) dL_law_519 ?_
  refine eVL_53 rfl dL_law_520 h15 (Nat.le_of_ble_eq_true rfl) (dm _ (fun mi2 ml2 mr2 dom2 hZ2 => ?_))
  exact j_icmp_eq (tgt := 1685) dL_law_523 (by decide) (fun _ => hs _ _ _ _ hZ2) (fun h => absurd rfl h)
theorem la_8 (hx : SCX X G L xs) (hi : 6 * c + 6 ≤ L) (hL : L ≤ 3072) (h15 : 15 ≤ d) (hc : c < 99999) (hZ : LAZ c mi ml mr dom) (hs : ∀ mi2 ml2 mr2 dom2, LAZ (c + 1) mi2 ml2 mr2 dom2 → J cL_law 7 RL nm rt d G X post bc bs mi2 ml2 mr2 dom2 1685 [some (.ref 598), some (.ref 0), some (.ref 1000), some (.ref 601), some (.int (nI (6 * c))), none, none] []) : J cL_law 7 RL nm rt d G X post bc bs mi ml mr dom 528 [some (.ref 598), some (.ref 0), some (.ref 1000), some (.ref 601), some (.int (nI (6 * c))), none, none] [] := by
  refine j_aload_n dL_law_528 rfl rfl ?_
  refine j_aload_n dL_law_529 rfl rfl ?_
  refine j_iload dL_law_530 rfl ?_
  refine j_iconst (v := 1) dL_law_532 (by decide) ?_
  refine j_iadd dL_law_533 ?_
  refine j_sld hx (idx (k := 1) hi hL (by decide)) dL_law_534 ?_
  refine eVL_54 rfl dL_law_535 h15 (Nat.le_of_ble_eq_true rfl) (du_light hc hZ _ (fun x mi1 ml1 mr1 dom1 dm => ?_))
  refine j_aload_n dL_law_538 rfl rfl ?_
  refine j_aload_n dL_law_539 rfl rfl ?_
  refine j_iload dL_law_540 rfl ?_
  refine j_iconst (v := 1) dL_law_542 (by decide) ?_
  refine j_iadd dL_law_543 ?_
  refine j_sld hx (idx (k := 1) hi hL (by decide)) dL_law_544 ?_
  refine eVL_57 rfl dL_law_545 h15 (Nat.le_of_ble_eq_true rfl) (dm _ (fun mi2 ml2 mr2 dom2 hZ2 => ?_))
  exact j_icmp_eq (tgt := 1685) dL_law_548 (by decide) (fun _ => hs _ _ _ _ hZ2) (fun h => absurd rfl h)
theorem la_9 (hx : SCX X G L xs) (hi : 6 * c + 6 ≤ L) (hL : L ≤ 3072) (h15 : 15 ≤ d) (hc : c < 99999) (hZ : LAZ c mi ml mr dom) (hs : ∀ mi2 ml2 mr2 dom2, LAZ (c + 1) mi2 ml2 mr2 dom2 → J cL_law 7 RL nm rt d G X post bc bs mi2 ml2 mr2 dom2 1685 [some (.ref 598), some (.ref 0), some (.ref 1000), some (.ref 601), some (.int (nI (6 * c))), none, none] []) : J cL_law 7 RL nm rt d G X post bc bs mi ml mr dom 553 [some (.ref 598), some (.ref 0), some (.ref 1000), some (.ref 601), some (.int (nI (6 * c))), none, none] [] := by
  refine j_aload_n dL_law_553 rfl rfl ?_
  refine j_aload_n dL_law_554 rfl rfl ?_
  refine j_iload dL_law_555 rfl ?_
  refine j_iconst (v := 1) dL_law_557 (by decide) ?_
  refine j_iadd dL_law_558 ?_
  refine j_sld hx (idx (k := 1) hi hL (by decide)) dL_law_559 ?_
  refine j_aload_n dL_law_560 rfl rfl ?_
  refine j_iload dL_law_561 rfl ?_
  refine j_iconst (v := 2) dL_law_563 (by decide) ?_
  refine j_iadd dL_law_564 ?_
  refine j_sld hx (idx (k := 2) hi hL (by decide)) dL_law_565 ?_
  refine j_aload_n dL_law_566 rfl rfl ?_
  refine j_iload dL_law_567 rfl ?_
  refine j_iconst (v := 3) dL_law_569 (by decide) ?_
  refine j_iadd dL_law_570 ?_
  refine j_sld hx (idx (k := 3) hi hL (by decide)) dL_law_571 ?_
  refine eVL_58 rfl dL_law_572 h15 (Nat.le_of_ble_eq_true rfl) (du_seen hc hZ _ (fun x mi1 ml1 mr1 dom1 dm => ?_))
  refine j_aload_n dL_law_575 rfl rfl ?_
  refine j_aload_n dL_law_576 rfl rfl ?_
  refine j_iload dL_law_577 rfl ?_
  refine j_iconst (v := 1) dL_law_579 (by decide) ?_
  refine j_iadd dL_law_580 ?_
  refine j_sld hx (idx (k := 1) hi hL (by decide)) dL_law_581 ?_
  refine j_aload_n dL_law_582 rfl rfl ?_
  refine j_iload dL_law_583 rfl ?_
  refine j_iconst (v := 2) dL_law_585 (by decide) ?_
  refine j_iadd dL_law_586 ?_
  refine j_sld hx (idx (k := 2) hi hL (by decide)) dL_law_587 ?_
  refine j_aload_n dL_law_588 rfl rfl ?_
  refine j_iload dL_law_589 rfl ?_
  refine j_iconst (v := 3) dL_law_591 (by decide) ?_
  refine j_iadd dL_law_592 ?_
  refine j_sld hx (idx (k := 3) hi hL (by decide)) dL_law_593 ?_
  refine eVL_62 rfl dL_law_594 h15 (Nat.le_of_ble_eq_true rfl) (dm _ (fun mi2 ml2 mr2 dom2 hZ2 => ?_))
  exact j_icmp_eq (tgt := 1685) dL_law_597 (by decide) (fun _ => hs _ _ _ _ hZ2) (fun h => absurd rfl h)
theorem la_10 (hx : SCX X G L xs) (hi : 6 * c + 6 ≤ L) (hL : L ≤ 3072) (h15 : 15 ≤ d) (hc : c < 99999) (hZ : LAZ c mi ml mr dom) (hs : ∀ mi2 ml2 mr2 dom2, LAZ (c + 1) mi2 ml2 mr2 dom2 → J cL_law 7 RL nm rt d G X post bc bs mi2 ml2 mr2 dom2 1685 [some (.ref 598), some (.ref 0), some (.ref 1000), some (.ref 601), some (.int (nI (6 * c))), none, none] []) : J cL_law 7 RL nm rt d G X post bc bs mi ml mr dom 602 [some (.ref 598), some (.ref 0), some (.ref 1000), some (.ref 601), some (.int (nI (6 * c))), none, none] [] := by
  refine j_aload_n dL_law_602 rfl rfl ?_
  refine j_aload_n dL_law_603 rfl rfl ?_
  refine j_iload dL_law_604 rfl ?_
  refine j_iconst (v := 1) dL_law_606 (by decide) ?_
  refine j_iadd dL_law_607 ?_
  refine j_sld hx (idx (k := 1) hi hL (by decide)) dL_law_608 ?_
  refine j_aload_n dL_law_609 rfl rfl ?_
  refine j_iload dL_law_610 rfl ?_
  refine j_iconst (v := 2) dL_law_612 (by decide) ?_
  refine j_iadd dL_law_613 ?_
  refine j_sld hx (idx (k := 2) hi hL (by decide)) dL_law_614 ?_
  refine j_aload_n dL_law_615 rfl rfl ?_
  refine j_iload dL_law_616 rfl ?_
  refine j_iconst (v := 3) dL_law_618 (by decide) ?_
  refine j_iadd dL_law_619 ?_
  refine j_sld hx (idx (k := 3) hi hL (by decide)) dL_law_620 ?_
  refine eVL_63 rfl dL_law_621 h15 (Nat.le_of_ble_eq_true rfl) (du_taken hc hZ _ (fun x mi1 ml1 mr1 dom1 dm => ?_))
  refine j_aload_n dL_law_624 rfl rfl ?_
  refine j_aload_n dL_law_625 rfl rfl ?_
  refine j_iload dL_law_626 rfl ?_
  refine j_iconst (v := 1) dL_law_628 (by decide) ?_
  refine j_iadd dL_law_629 ?_
  refine j_sld hx (idx (k := 1) hi hL (by decide)) dL_law_630 ?_
  refine j_aload_n dL_law_631 rfl rfl ?_
  refine j_iload dL_law_632 rfl ?_
  refine j_iconst (v := 2) dL_law_634 (by decide) ?_
  refine j_iadd dL_law_635 ?_
  refine j_sld hx (idx (k := 2) hi hL (by decide)) dL_law_636 ?_
  refine j_aload_n dL_law_637 rfl rfl ?_
  refine j_iload dL_law_638 rfl ?_
  refine j_iconst (v := 3) dL_law_640 (by decide) ?_
  refine j_iadd dL_law_641 ?_
  refine j_sld hx (idx (k := 3) hi hL (by decide)) dL_law_642 ?_
  refine eVL_66 rfl dL_law_643 h15 (Nat.le_of_ble_eq_true rfl) (dm _ (fun mi2 ml2 mr2 dom2 hZ2 => ?_))
  exact j_icmp_eq (tgt := 1685) dL_law_646 (by decide) (fun _ => hs _ _ _ _ hZ2) (fun h => absurd rfl h)
theorem la_11 (hx : SCX X G L xs) (hi : 6 * c + 6 ≤ L) (hL : L ≤ 3072) (h15 : 15 ≤ d) (hc : c < 99999) (hZ : LAZ c mi ml mr dom) (hs : ∀ mi2 ml2 mr2 dom2, LAZ (c + 1) mi2 ml2 mr2 dom2 → J cL_law 7 RL nm rt d G X post bc bs mi2 ml2 mr2 dom2 1685 [some (.ref 598), some (.ref 0), some (.ref 1000), some (.ref 601), some (.int (nI (6 * c))), none, none] []) : J cL_law 7 RL nm rt d G X post bc bs mi ml mr dom 651 [some (.ref 598), some (.ref 0), some (.ref 1000), some (.ref 601), some (.int (nI (6 * c))), none, none] [] := by
  refine j_aload_n dL_law_651 rfl rfl ?_
  refine j_aload_n dL_law_652 rfl rfl ?_
  refine j_iload dL_law_653 rfl ?_
  refine j_iconst (v := 1) dL_law_655 (by decide) ?_
  refine j_iadd dL_law_656 ?_
  refine j_sld hx (idx (k := 1) hi hL (by decide)) dL_law_657 ?_
  refine j_aload_n dL_law_658 rfl rfl ?_
  refine j_iload dL_law_659 rfl ?_
  refine j_iconst (v := 2) dL_law_661 (by decide) ?_
  refine j_iadd dL_law_662 ?_
  refine j_sld hx (idx (k := 2) hi hL (by decide)) dL_law_663 ?_
  refine eVL_67 rfl dL_law_664 h15 (Nat.le_of_ble_eq_true rfl) (du_pairs hc hZ _ (fun x mi1 ml1 mr1 dom1 dm => ?_))
  refine j_aload_n dL_law_667 rfl rfl ?_
  refine j_aload_n dL_law_668 rfl rfl ?_
  refine j_iload dL_law_669 rfl ?_
  refine j_iconst (v := 1) dL_law_671 (by decide) ?_
  refine j_iadd dL_law_672 ?_
  refine j_sld hx (idx (k := 1) hi hL (by decide)) dL_law_673 ?_
  refine j_aload_n dL_law_674 rfl rfl ?_
  refine j_iload dL_law_675 rfl ?_
  refine j_iconst (v := 2) dL_law_677 (by decide) ?_
  refine j_iadd dL_law_678 ?_
  refine j_sld hx (idx (k := 2) hi hL (by decide)) dL_law_679 ?_
  refine eVL_70 rfl dL_law_680 h15 (Nat.le_of_ble_eq_true rfl) (dm _ (fun mi2 ml2 mr2 dom2 hZ2 => ?_))
  exact j_icmp_eq (tgt := 1685) dL_law_683 (by decide) (fun _ => hs _ _ _ _ hZ2) (fun h => absurd rfl h)
theorem la_12 (hx : SCX X G L xs) (hi : 6 * c + 6 ≤ L) (hL : L ≤ 3072) (h15 : 15 ≤ d) (hc : c < 99999) (hZ : LAZ c mi ml mr dom) (hs : ∀ mi2 ml2 mr2 dom2, LAZ (c + 1) mi2 ml2 mr2 dom2 → J cL_law 7 RL nm rt d G X post bc bs mi2 ml2 mr2 dom2 1685 [some (.ref 598), some (.ref 0), some (.ref 1000), some (.ref 601), some (.int (nI (6 * c))), none, none] []) : J cL_law 7 RL nm rt d G X post bc bs mi ml mr dom 688 [some (.ref 598), some (.ref 0), some (.ref 1000), some (.ref 601), some (.int (nI (6 * c))), none, none] [] := by
  refine j_aload_n dL_law_688 rfl rfl ?_
  refine j_aload_n dL_law_689 rfl rfl ?_
  refine j_iload dL_law_690 rfl ?_
  refine j_iconst (v := 1) dL_law_692 (by decide) ?_
  refine j_iadd dL_law_693 ?_
  refine j_sld hx (idx (k := 1) hi hL (by decide)) dL_law_694 ?_
  refine eVL_71 rfl dL_law_695 h15 (Nat.le_of_ble_eq_true rfl) (du_knownAt hc hZ _ (fun x mi1 ml1 mr1 dom1 dm => ?_))
  refine j_aload_n dL_law_698 rfl rfl ?_
  refine j_aload_n dL_law_699 rfl rfl ?_
  refine j_iload dL_law_700 rfl ?_
  refine j_iconst (v := 1) dL_law_702 (by decide) ?_
  refine j_iadd dL_law_703 ?_
  refine j_sld hx (idx (k := 1) hi hL (by decide)) dL_law_704 ?_
  refine eVL_74 rfl dL_law_705 h15 (Nat.le_of_ble_eq_true rfl) (dm _ (fun mi2 ml2 mr2 dom2 hZ2 => ?_))
  exact j_icmp_eq (tgt := 1685) dL_law_708 (by decide) (fun _ => hs _ _ _ _ hZ2) (fun h => absurd rfl h)
theorem la_13 (hx : SCX X G L xs) (hi : 6 * c + 6 ≤ L) (hL : L ≤ 3072) (h15 : 15 ≤ d) (hc : c < 99999) (hZ : LAZ c mi ml mr dom) (hs : ∀ mi2 ml2 mr2 dom2, LAZ (c + 1) mi2 ml2 mr2 dom2 → J cL_law 7 RL nm rt d G X post bc bs mi2 ml2 mr2 dom2 1685 [some (.ref 598), some (.ref 0), some (.ref 1000), some (.ref 601), some (.int (nI (6 * c))), none, none] []) : J cL_law 7 RL nm rt d G X post bc bs mi ml mr dom 713 [some (.ref 598), some (.ref 0), some (.ref 1000), some (.ref 601), some (.int (nI (6 * c))), none, none] [] := by
  refine j_aload_n dL_law_713 rfl rfl ?_
  refine j_aload_n dL_law_714 rfl rfl ?_
  refine j_iload dL_law_715 rfl ?_
  refine j_iconst (v := 1) dL_law_717 (by decide) ?_
  refine j_iadd dL_law_718 ?_
  refine j_sld hx (idx (k := 1) hi hL (by decide)) dL_law_719 ?_
  refine j_aload_n dL_law_720 rfl rfl ?_
  refine j_iload dL_law_721 rfl ?_
  refine j_iconst (v := 2) dL_law_723 (by decide) ?_
  refine j_iadd dL_law_724 ?_
  refine j_sld hx (idx (k := 2) hi hL (by decide)) dL_law_725 ?_
  refine j_aload_n dL_law_726 rfl rfl ?_
  refine j_iload dL_law_727 rfl ?_
  refine j_iconst (v := 3) dL_law_729 (by decide) ?_
  refine j_iadd dL_law_730 ?_
  refine j_sld hx (idx (k := 3) hi hL (by decide)) dL_law_731 ?_
  refine eVL_75 rfl dL_law_732 h15 (Nat.le_of_ble_eq_true rfl) (du_fine hc hZ _ (fun x mi1 ml1 mr1 dom1 dm => ?_))
  refine j_aload_n dL_law_735 rfl rfl ?_
  refine j_aload_n dL_law_736 rfl rfl ?_
  refine j_iload dL_law_737 rfl ?_
  refine j_iconst (v := 1) dL_law_739 (by decide) ?_
  refine j_iadd dL_law_740 ?_
  refine j_sld hx (idx (k := 1) hi hL (by decide)) dL_law_741 ?_
  refine j_aload_n dL_law_742 rfl rfl ?_
  refine j_iload dL_law_743 rfl ?_
  refine j_iconst (v := 2) dL_law_745 (by decide) ?_
  refine j_iadd dL_law_746 ?_
  refine j_sld hx (idx (k := 2) hi hL (by decide)) dL_law_747 ?_
  refine j_aload_n dL_law_748 rfl rfl ?_
  refine j_iload dL_law_749 rfl ?_
  refine j_iconst (v := 3) dL_law_751 (by decide) ?_
  refine j_iadd dL_law_752 ?_
  refine j_sld hx (idx (k := 3) hi hL (by decide)) dL_law_753 ?_
  refine eVL_78 rfl dL_law_754 h15 (Nat.le_of_ble_eq_true rfl) (dm _ (fun mi2 ml2 mr2 dom2 hZ2 => ?_))
  exact j_icmp_eq (tgt := 1685) dL_law_757 (by decide) (fun _ => hs _ _ _ _ hZ2) (fun h => absurd rfl h)
theorem la_14 (hx : SCX X G L xs) (hi : 6 * c + 6 ≤ L) (hL : L ≤ 3072) (h15 : 15 ≤ d) (hc : c < 99999) (hZ : LAZ c mi ml mr dom) (hs : ∀ mi2 ml2 mr2 dom2, LAZ (c + 1) mi2 ml2 mr2 dom2 → J cL_law 7 RL nm rt d G X post bc bs mi2 ml2 mr2 dom2 1685 [some (.ref 598), some (.ref 0), some (.ref 1000), some (.ref 601), some (.int (nI (6 * c))), none, none] []) : J cL_law 7 RL nm rt d G X post bc bs mi ml mr dom 762 [some (.ref 598), some (.ref 0), some (.ref 1000), some (.ref 601), some (.int (nI (6 * c))), none, none] [] := by
  refine j_aload_n dL_law_762 rfl rfl ?_
  refine j_aload_n dL_law_763 rfl rfl ?_
  refine j_iload dL_law_764 rfl ?_
  refine j_iconst (v := 1) dL_law_766 (by decide) ?_
  refine j_iadd dL_law_767 ?_
  refine j_sld hx (idx (k := 1) hi hL (by decide)) dL_law_768 ?_
  refine j_aload_n dL_law_769 rfl rfl ?_
  refine j_iload dL_law_770 rfl ?_
  refine j_iconst (v := 2) dL_law_772 (by decide) ?_
  refine j_iadd dL_law_773 ?_
  refine j_sld hx (idx (k := 2) hi hL (by decide)) dL_law_774 ?_
  refine eVL_79 rfl dL_law_775 h15 (Nat.le_of_ble_eq_true rfl) (du_visit hc hZ _ (fun x mi1 ml1 mr1 dom1 dm => ?_))
  refine j_aload_n dL_law_778 rfl rfl ?_
  refine j_aload_n dL_law_779 rfl rfl ?_
  refine j_iload dL_law_780 rfl ?_
  refine j_iconst (v := 1) dL_law_782 (by decide) ?_
  refine j_iadd dL_law_783 ?_
  refine j_sld hx (idx (k := 1) hi hL (by decide)) dL_law_784 ?_
  refine j_aload_n dL_law_785 rfl rfl ?_
  refine j_iload dL_law_786 rfl ?_
  refine j_iconst (v := 2) dL_law_788 (by decide) ?_
  refine j_iadd dL_law_789 ?_
  refine j_sld hx (idx (k := 2) hi hL (by decide)) dL_law_790 ?_
  refine eVL_82 rfl dL_law_791 h15 (Nat.le_of_ble_eq_true rfl) (dm _ (fun mi2 ml2 mr2 dom2 hZ2 => ?_))
  exact j_icmp_eq (tgt := 1685) dL_law_794 (by decide) (fun _ => hs _ _ _ _ hZ2) (fun h => absurd rfl h)
theorem la_15 (hx : SCX X G L xs) (hi : 6 * c + 6 ≤ L) (hL : L ≤ 3072) (h15 : 15 ≤ d) (hc : c < 99999) (hZ : LAZ c mi ml mr dom) (hs : ∀ mi2 ml2 mr2 dom2, LAZ (c + 1) mi2 ml2 mr2 dom2 → J cL_law 7 RL nm rt d G X post bc bs mi2 ml2 mr2 dom2 1685 [some (.ref 598), some (.ref 0), some (.ref 1000), some (.ref 601), some (.int (nI (6 * c))), none, none] []) : J cL_law 7 RL nm rt d G X post bc bs mi ml mr dom 799 [some (.ref 598), some (.ref 0), some (.ref 1000), some (.ref 601), some (.int (nI (6 * c))), none, none] [] := by
  refine j_aload_n dL_law_799 rfl rfl ?_
  refine j_aload_n dL_law_800 rfl rfl ?_
  refine j_iload dL_law_801 rfl ?_
  refine j_iconst (v := 1) dL_law_803 (by decide) ?_
  refine j_iadd dL_law_804 ?_
  refine j_sld hx (idx (k := 1) hi hL (by decide)) dL_law_805 ?_
  refine eVL_83 rfl dL_law_806 h15 (Nat.le_of_ble_eq_true rfl) (du_fines hc hZ _ (fun x mi1 ml1 mr1 dom1 dm => ?_))
  refine j_aload_n dL_law_809 rfl rfl ?_
  refine j_aload_n dL_law_810 rfl rfl ?_
  refine j_iload dL_law_811 rfl ?_
  refine j_iconst (v := 1) dL_law_813 (by decide) ?_
  refine j_iadd dL_law_814 ?_
  refine j_sld hx (idx (k := 1) hi hL (by decide)) dL_law_815 ?_
  refine eVL_86 rfl dL_law_816 h15 (Nat.le_of_ble_eq_true rfl) (dm _ (fun mi2 ml2 mr2 dom2 hZ2 => ?_))
  exact j_icmp_eq (tgt := 1685) dL_law_819 (by decide) (fun _ => hs _ _ _ _ hZ2) (fun h => absurd rfl h)
theorem la_16 (hx : SCX X G L xs) (hi : 6 * c + 6 ≤ L) (hL : L ≤ 3072) (h15 : 15 ≤ d) (hc : c < 99999) (hZ : LAZ c mi ml mr dom) (hs : ∀ mi2 ml2 mr2 dom2, LAZ (c + 1) mi2 ml2 mr2 dom2 → J cL_law 7 RL nm rt d G X post bc bs mi2 ml2 mr2 dom2 1685 [some (.ref 598), some (.ref 0), some (.ref 1000), some (.ref 601), some (.int (nI (6 * c))), none, none] []) : J cL_law 7 RL nm rt d G X post bc bs mi ml mr dom 824 [some (.ref 598), some (.ref 0), some (.ref 1000), some (.ref 601), some (.int (nI (6 * c))), none, none] [] := by
  refine j_aload_n dL_law_824 rfl rfl ?_
  refine j_aload_n dL_law_825 rfl rfl ?_
  refine j_iload dL_law_826 rfl ?_
  refine j_iconst (v := 1) dL_law_828 (by decide) ?_
  refine j_iadd dL_law_829 ?_
  refine j_sld hx (idx (k := 1) hi hL (by decide)) dL_law_830 ?_
  refine eVL_87 rfl dL_law_831 h15 (Nat.le_of_ble_eq_true rfl) (du_bares hc hZ _ (fun x mi1 ml1 mr1 dom1 dm => ?_))
  refine j_aload_n dL_law_834 rfl rfl ?_
  refine j_aload_n dL_law_835 rfl rfl ?_
  refine j_iload dL_law_836 rfl ?_
  refine j_iconst (v := 1) dL_law_838 (by decide) ?_
  refine j_iadd dL_law_839 ?_
  refine j_sld hx (idx (k := 1) hi hL (by decide)) dL_law_840 ?_
  refine eVL_90 rfl dL_law_841 h15 (Nat.le_of_ble_eq_true rfl) (dm _ (fun mi2 ml2 mr2 dom2 hZ2 => ?_))
  exact j_icmp_eq (tgt := 1685) dL_law_844 (by decide) (fun _ => hs _ _ _ _ hZ2) (fun h => absurd rfl h)
theorem la_17 (hx : SCX X G L xs) (hi : 6 * c + 6 ≤ L) (hL : L ≤ 3072) (h15 : 15 ≤ d) (hc : c < 99999) (hZ : LAZ c mi ml mr dom) (hs : ∀ mi2 ml2 mr2 dom2, LAZ (c + 1) mi2 ml2 mr2 dom2 → J cL_law 7 RL nm rt d G X post bc bs mi2 ml2 mr2 dom2 1685 [some (.ref 598), some (.ref 0), some (.ref 1000), some (.ref 601), some (.int (nI (6 * c))), none, none] []) : J cL_law 7 RL nm rt d G X post bc bs mi ml mr dom 849 [some (.ref 598), some (.ref 0), some (.ref 1000), some (.ref 601), some (.int (nI (6 * c))), none, none] [] := by
  refine j_aload_n dL_law_849 rfl rfl ?_
  refine j_aload_n dL_law_850 rfl rfl ?_
  refine j_iload dL_law_851 rfl ?_
  refine j_iconst (v := 1) dL_law_853 (by decide) ?_
  refine j_iadd dL_law_854 ?_
  refine j_sld hx (idx (k := 1) hi hL (by decide)) dL_law_855 ?_
  refine eVL_91 rfl dL_law_856 h15 (Nat.le_of_ble_eq_true rfl) (du_met hc hZ _ (fun x mi1 ml1 mr1 dom1 dm => ?_))
  refine j_aload_n dL_law_859 rfl rfl ?_
  refine j_aload_n dL_law_860 rfl rfl ?_
  refine j_iload dL_law_861 rfl ?_
  refine j_iconst (v := 1) dL_law_863 (by decide) ?_
  refine j_iadd dL_law_864 ?_
  refine j_sld hx (idx (k := 1) hi hL (by decide)) dL_law_865 ?_
  refine eVL_94 rfl dL_law_866 h15 (Nat.le_of_ble_eq_true rfl) (dm _ (fun mi2 ml2 mr2 dom2 hZ2 => ?_))
  exact j_icmp_eq (tgt := 1685) dL_law_869 (by decide) (fun _ => hs _ _ _ _ hZ2) (fun h => absurd rfl h)
theorem la_18 (hx : SCX X G L xs) (hi : 6 * c + 6 ≤ L) (hL : L ≤ 3072) (h15 : 15 ≤ d) (hc : c < 99999) (hZ : LAZ c mi ml mr dom) (hs : ∀ mi2 ml2 mr2 dom2, LAZ (c + 1) mi2 ml2 mr2 dom2 → J cL_law 7 RL nm rt d G X post bc bs mi2 ml2 mr2 dom2 1685 [some (.ref 598), some (.ref 0), some (.ref 1000), some (.ref 601), some (.int (nI (6 * c))), none, none] []) : J cL_law 7 RL nm rt d G X post bc bs mi ml mr dom 874 [some (.ref 598), some (.ref 0), some (.ref 1000), some (.ref 601), some (.int (nI (6 * c))), none, none] [] := by
  refine j_aload_n dL_law_874 rfl rfl ?_
  refine eVL_95 rfl dL_law_875 h15 (Nat.le_of_ble_eq_true rfl) (du_busiest hc hZ _ (fun x mi1 ml1 mr1 dom1 dm => ?_))
  refine j_aload_n dL_law_878 rfl rfl ?_
  refine eVL_98 rfl dL_law_879 h15 (Nat.le_of_ble_eq_true rfl) (dm _ (fun mi2 ml2 mr2 dom2 hZ2 => ?_))
  exact j_icmp_eq (tgt := 1685) dL_law_882 (by decide) (fun _ => hs _ _ _ _ hZ2) (fun h => absurd rfl h)
theorem la_19 (hx : SCX X G L xs) (hi : 6 * c + 6 ≤ L) (hL : L ≤ 3072) (h15 : 15 ≤ d) (hc : c < 99999) (hZ : LAZ c mi ml mr dom) (hs : ∀ mi2 ml2 mr2 dom2, LAZ (c + 1) mi2 ml2 mr2 dom2 → J cL_law 7 RL nm rt d G X post bc bs mi2 ml2 mr2 dom2 1685 [some (.ref 598), some (.ref 0), some (.ref 1000), some (.ref 601), some (.int (nI (6 * c))), none, none] []) : J cL_law 7 RL nm rt d G X post bc bs mi ml mr dom 887 [some (.ref 598), some (.ref 0), some (.ref 1000), some (.ref 601), some (.int (nI (6 * c))), none, none] [] := by
  refine j_aload_n dL_law_887 rfl rfl ?_
  refine j_aload_n dL_law_888 rfl rfl ?_
  refine j_iload dL_law_889 rfl ?_
  refine j_iconst (v := 1) dL_law_891 (by decide) ?_
  refine j_iadd dL_law_892 ?_
  refine j_sld hx (idx (k := 1) hi hL (by decide)) dL_law_893 ?_
  refine j_aload_n dL_law_894 rfl rfl ?_
  refine j_iload dL_law_895 rfl ?_
  refine j_iconst (v := 2) dL_law_897 (by decide) ?_
  refine j_iadd dL_law_898 ?_
  refine j_sld hx (idx (k := 2) hi hL (by decide)) dL_law_899 ?_
  refine eVL_99 rfl dL_law_900 h15 (Nat.le_of_ble_eq_true rfl) (du_apart hc hZ _ (fun x mi1 ml1 mr1 dom1 dm => ?_))
  refine j_aload_n dL_law_903 rfl rfl ?_
  refine j_aload_n dL_law_904 rfl rfl ?_
  refine j_iload dL_law_905 rfl ?_
  refine j_iconst (v := 1) dL_law_907 (by decide) ?_
  refine j_iadd dL_law_908 ?_
  refine j_sld hx (idx (k := 1) hi hL (by decide)) dL_law_909 ?_
  refine j_aload_n dL_law_910 rfl rfl ?_
  refine j_iload dL_law_911 rfl ?_
  refine j_iconst (v := 2) dL_law_913 (by decide) ?_
  refine j_iadd dL_law_914 ?_
  refine j_sld hx (idx (k := 2) hi hL (by decide)) dL_law_915 ?_
  refine eVL_102 rfl dL_law_916 h15 (Nat.le_of_ble_eq_true rfl) (dm _ (fun mi2 ml2 mr2 dom2 hZ2 => ?_))
  exact j_icmp_eq (tgt := 1685) dL_law_919 (by decide) (fun _ => hs _ _ _ _ hZ2) (fun h => absurd rfl h)
theorem la_20 (hx : SCX X G L xs) (hi : 6 * c + 6 ≤ L) (hL : L ≤ 3072) (h15 : 15 ≤ d) (hc : c < 99999) (hZ : LAZ c mi ml mr dom) (hs : ∀ mi2 ml2 mr2 dom2, LAZ (c + 1) mi2 ml2 mr2 dom2 → J cL_law 7 RL nm rt d G X post bc bs mi2 ml2 mr2 dom2 1685 [some (.ref 598), some (.ref 0), some (.ref 1000), some (.ref 601), some (.int (nI (6 * c))), none, none] []) : J cL_law 7 RL nm rt d G X post bc bs mi ml mr dom 924 [some (.ref 598), some (.ref 0), some (.ref 1000), some (.ref 601), some (.int (nI (6 * c))), none, none] [] := by
  refine j_aload_n dL_law_924 rfl rfl ?_
  refine eVL_103 rfl dL_law_925 h15 (Nat.le_of_ble_eq_true rfl) (du_tells hc hZ _ (fun x mi1 ml1 mr1 dom1 dm => ?_))
  refine j_aload_n dL_law_928 rfl rfl ?_
  refine eVL_106 rfl dL_law_929 h15 (Nat.le_of_ble_eq_true rfl) (dm _ (fun mi2 ml2 mr2 dom2 hZ2 => ?_))
  exact j_icmp_eq (tgt := 1685) dL_law_932 (by decide) (fun _ => hs _ _ _ _ hZ2) (fun h => absurd rfl h)
theorem la_21 (hx : SCX X G L xs) (hi : 6 * c + 6 ≤ L) (hL : L ≤ 3072) (h15 : 15 ≤ d) (hc : c < 99999) (hZ : LAZ c mi ml mr dom) (hs : ∀ mi2 ml2 mr2 dom2, LAZ (c + 1) mi2 ml2 mr2 dom2 → J cL_law 7 RL nm rt d G X post bc bs mi2 ml2 mr2 dom2 1685 [some (.ref 598), some (.ref 0), some (.ref 1000), some (.ref 601), some (.int (nI (6 * c))), none, none] []) : J cL_law 7 RL nm rt d G X post bc bs mi ml mr dom 937 [some (.ref 598), some (.ref 0), some (.ref 1000), some (.ref 601), some (.int (nI (6 * c))), none, none] [] := by
  refine j_aload_n dL_law_937 rfl rfl ?_
  refine j_aload_n dL_law_938 rfl rfl ?_
  refine j_iload dL_law_939 rfl ?_
  refine j_iconst (v := 1) dL_law_941 (by decide) ?_
  refine j_iadd dL_law_942 ?_
  refine j_sld hx (idx (k := 1) hi hL (by decide)) dL_law_943 ?_
  refine eVL_107 rfl dL_law_944 h15 (Nat.le_of_ble_eq_true rfl) (du_another hc hZ _ (fun x mi1 ml1 mr1 dom1 dm => ?_))
  refine j_aload_n dL_law_947 rfl rfl ?_
  refine j_aload_n dL_law_948 rfl rfl ?_
  refine j_iload dL_law_949 rfl ?_
  refine j_iconst (v := 1) dL_law_951 (by decide) ?_
  refine j_iadd dL_law_952 ?_
  refine j_sld hx (idx (k := 1) hi hL (by decide)) dL_law_953 ?_
  refine eVL_110 rfl dL_law_954 h15 (Nat.le_of_ble_eq_true rfl) (dm _ (fun mi2 ml2 mr2 dom2 hZ2 => ?_))
  exact j_icmp_eq (tgt := 1685) dL_law_957 (by decide) (fun _ => hs _ _ _ _ hZ2) (fun h => absurd rfl h)
theorem la_22 (hx : SCX X G L xs) (hi : 6 * c + 6 ≤ L) (hL : L ≤ 3072) (h15 : 15 ≤ d) (hc : c < 99999) (hZ : LAZ c mi ml mr dom) (hs : ∀ mi2 ml2 mr2 dom2, LAZ (c + 1) mi2 ml2 mr2 dom2 → J cL_law 7 RL nm rt d G X post bc bs mi2 ml2 mr2 dom2 1685 [some (.ref 598), some (.ref 0), some (.ref 1000), some (.ref 601), some (.int (nI (6 * c))), none, none] []) : J cL_law 7 RL nm rt d G X post bc bs mi ml mr dom 962 [some (.ref 598), some (.ref 0), some (.ref 1000), some (.ref 601), some (.int (nI (6 * c))), none, none] [] := by
  refine j_aload_n dL_law_962 rfl rfl ?_
  refine eVL_111 rfl dL_law_963 h15 (Nat.le_of_ble_eq_true rfl) (du_leastSill hc hZ _ (fun x mi1 ml1 mr1 dom1 dm => ?_))
  refine j_aload_n dL_law_966 rfl rfl ?_
  refine eVL_114 rfl dL_law_967 h15 (Nat.le_of_ble_eq_true rfl) (dm _ (fun mi2 ml2 mr2 dom2 hZ2 => ?_))
  exact j_icmp_eq (tgt := 1685) dL_law_970 (by decide) (fun _ => hs _ _ _ _ hZ2) (fun h => absurd rfl h)
theorem la_23 (hx : SCX X G L xs) (hi : 6 * c + 6 ≤ L) (hL : L ≤ 3072) (h15 : 15 ≤ d) (hc : c < 99999) (hZ : LAZ c mi ml mr dom) (hs : ∀ mi2 ml2 mr2 dom2, LAZ (c + 1) mi2 ml2 mr2 dom2 → J cL_law 7 RL nm rt d G X post bc bs mi2 ml2 mr2 dom2 1685 [some (.ref 598), some (.ref 0), some (.ref 1000), some (.ref 601), some (.int (nI (6 * c))), none, none] []) : J cL_law 7 RL nm rt d G X post bc bs mi ml mr dom 975 [some (.ref 598), some (.ref 0), some (.ref 1000), some (.ref 601), some (.int (nI (6 * c))), none, none] [] := by
  refine j_aload_n dL_law_975 rfl rfl ?_
  refine j_aload_n dL_law_976 rfl rfl ?_
  refine j_iload dL_law_977 rfl ?_
  refine j_iconst (v := 1) dL_law_979 (by decide) ?_
  refine j_iadd dL_law_980 ?_
  refine j_sld hx (idx (k := 1) hi hL (by decide)) dL_law_981 ?_
  refine j_aload_n dL_law_982 rfl rfl ?_
  refine j_iload dL_law_983 rfl ?_
  refine j_iconst (v := 2) dL_law_985 (by decide) ?_
  refine j_iadd dL_law_986 ?_
  refine j_sld hx (idx (k := 2) hi hL (by decide)) dL_law_987 ?_
  refine eVL_115 rfl dL_law_988 h15 (Nat.le_of_ble_eq_true rfl) (du_way hc hZ _ (fun x mi1 ml1 mr1 dom1 dm => ?_))
  refine j_aload_n dL_law_991 rfl rfl ?_
  refine j_aload_n dL_law_992 rfl rfl ?_
  refine j_iload dL_law_993 rfl ?_
  refine j_iconst (v := 1) dL_law_995 (by decide) ?_
  refine j_iadd dL_law_996 ?_
  refine j_sld hx (idx (k := 1) hi hL (by decide)) dL_law_997 ?_
  refine j_aload_n dL_law_998 rfl rfl ?_
  refine j_iload dL_law_999 rfl ?_
  refine j_iconst (v := 2) dL_law_1001 (by decide) ?_
  refine j_iadd dL_law_1002 ?_
  refine j_sld hx (idx (k := 2) hi hL (by decide)) dL_law_1003 ?_
  refine eVL_118 rfl dL_law_1004 h15 (Nat.le_of_ble_eq_true rfl) (dm _ (fun mi2 ml2 mr2 dom2 hZ2 => ?_))
  exact j_icmp_eq (tgt := 1685) dL_law_1007 (by decide) (fun _ => hs _ _ _ _ hZ2) (fun h => absurd rfl h)
theorem la_24 (hx : SCX X G L xs) (hi : 6 * c + 6 ≤ L) (hL : L ≤ 3072) (h15 : 15 ≤ d) (hc : c < 99999) (hZ : LAZ c mi ml mr dom) (hs : ∀ mi2 ml2 mr2 dom2, LAZ (c + 1) mi2 ml2 mr2 dom2 → J cL_law 7 RL nm rt d G X post bc bs mi2 ml2 mr2 dom2 1685 [some (.ref 598), some (.ref 0), some (.ref 1000), some (.ref 601), some (.int (nI (6 * c))), none, none] []) : J cL_law 7 RL nm rt d G X post bc bs mi ml mr dom 1012 [some (.ref 598), some (.ref 0), some (.ref 1000), some (.ref 601), some (.int (nI (6 * c))), none, none] [] := by
  refine j_aload_n dL_law_1012 rfl rfl ?_
  refine j_aload_n dL_law_1013 rfl rfl ?_
  refine j_iload dL_law_1014 rfl ?_
  refine j_iconst (v := 1) dL_law_1016 (by decide) ?_
  refine j_iadd dL_law_1017 ?_
  refine j_sld hx (idx (k := 1) hi hL (by decide)) dL_law_1018 ?_
  refine j_aload_n dL_law_1019 rfl rfl ?_
  refine j_iload dL_law_1020 rfl ?_
  refine j_iconst (v := 2) dL_law_1022 (by decide) ?_
  refine j_iadd dL_law_1023 ?_
  refine j_sld hx (idx (k := 2) hi hL (by decide)) dL_law_1024 ?_
  refine j_aload_n dL_law_1025 rfl rfl ?_
  refine j_iload dL_law_1026 rfl ?_
  refine j_iconst (v := 3) dL_law_1028 (by decide) ?_
  refine j_iadd dL_law_1029 ?_
  refine j_sld hx (idx (k := 3) hi hL (by decide)) dL_law_1030 ?_
  refine eVL_119 rfl dL_law_1031 h15 (Nat.le_of_ble_eq_true rfl) (du_wayAt hc hZ _ (fun x mi1 ml1 mr1 dom1 dm => ?_))
  refine j_aload_n dL_law_1034 rfl rfl ?_
  refine j_aload_n dL_law_1035 rfl rfl ?_
  refine j_iload dL_law_1036 rfl ?_
  refine j_iconst (v := 1) dL_law_1038 (by decide) ?_
  refine j_iadd dL_law_1039 ?_
  refine j_sld hx (idx (k := 1) hi hL (by decide)) dL_law_1040 ?_
  refine j_aload_n dL_law_1041 rfl rfl ?_
  refine j_iload dL_law_1042 rfl ?_
  refine j_iconst (v := 2) dL_law_1044 (by decide) ?_
  refine j_iadd dL_law_1045 ?_
  refine j_sld hx (idx (k := 2) hi hL (by decide)) dL_law_1046 ?_
  refine j_aload_n dL_law_1047 rfl rfl ?_
  refine j_iload dL_law_1048 rfl ?_
  refine j_iconst (v := 3) dL_law_1050 (by decide) ?_
  refine j_iadd dL_law_1051 ?_
  refine j_sld hx (idx (k := 3) hi hL (by decide)) dL_law_1052 ?_
  refine eVL_122 rfl dL_law_1053 h15 (Nat.le_of_ble_eq_true rfl) (dm _ (fun mi2 ml2 mr2 dom2 hZ2 => ?_))
  exact j_icmp_eq (tgt := 1685) dL_law_1056 (by decide) (fun _ => hs _ _ _ _ hZ2) (fun h => absurd rfl h)
theorem la_25 (hx : SCX X G L xs) (hi : 6 * c + 6 ≤ L) (hL : L ≤ 3072) (h15 : 15 ≤ d) (hc : c < 99999) (hZ : LAZ c mi ml mr dom) (hs : ∀ mi2 ml2 mr2 dom2, LAZ (c + 1) mi2 ml2 mr2 dom2 → J cL_law 7 RL nm rt d G X post bc bs mi2 ml2 mr2 dom2 1685 [some (.ref 598), some (.ref 0), some (.ref 1000), some (.ref 601), some (.int (nI (6 * c))), none, none] []) : J cL_law 7 RL nm rt d G X post bc bs mi ml mr dom 1061 [some (.ref 598), some (.ref 0), some (.ref 1000), some (.ref 601), some (.int (nI (6 * c))), none, none] [] := by
  refine j_aload_n dL_law_1061 rfl rfl ?_
  refine eVL_123 rfl dL_law_1062 h15 (Nat.le_of_ble_eq_true rfl) (du_carried hc hZ _ (fun x mi1 ml1 mr1 dom1 dm => ?_))
  refine j_aload_n dL_law_1065 rfl rfl ?_
  refine eVL_126 rfl dL_law_1066 h15 (Nat.le_of_ble_eq_true rfl) (dm _ (fun mi2 ml2 mr2 dom2 hZ2 => ?_))
  exact j_icmp_eq (tgt := 1685) dL_law_1069 (by decide) (fun _ => hs _ _ _ _ hZ2) (fun h => absurd rfl h)
theorem la_26 (hx : SCX X G L xs) (hi : 6 * c + 6 ≤ L) (hL : L ≤ 3072) (h15 : 15 ≤ d) (hc : c < 99999) (hZ : LAZ c mi ml mr dom) (hs : ∀ mi2 ml2 mr2 dom2, LAZ (c + 1) mi2 ml2 mr2 dom2 → J cL_law 7 RL nm rt d G X post bc bs mi2 ml2 mr2 dom2 1685 [some (.ref 598), some (.ref 0), some (.ref 1000), some (.ref 601), some (.int (nI (6 * c))), none, none] []) : J cL_law 7 RL nm rt d G X post bc bs mi ml mr dom 1074 [some (.ref 598), some (.ref 0), some (.ref 1000), some (.ref 601), some (.int (nI (6 * c))), none, none] [] := by
  refine j_aload_n dL_law_1074 rfl rfl ?_
  refine j_aload_n dL_law_1075 rfl rfl ?_
  refine j_iload dL_law_1076 rfl ?_
  refine j_iconst (v := 1) dL_law_1078 (by decide) ?_
  refine j_iadd dL_law_1079 ?_
  refine j_sld hx (idx (k := 1) hi hL (by decide)) dL_law_1080 ?_
  refine eVL_127 rfl dL_law_1081 h15 (Nat.le_of_ble_eq_true rfl) (du_carrier hc hZ _ (fun x mi1 ml1 mr1 dom1 dm => ?_))
  refine j_aload_n dL_law_1084 rfl rfl ?_
  refine j_aload_n dL_law_1085 rfl rfl ?_
  refine j_iload dL_law_1086 rfl ?_
  refine j_iconst (v := 1) dL_law_1088 (by decide) ?_
  refine j_iadd dL_law_1089 ?_
  refine j_sld hx (idx (k := 1) hi hL (by decide)) dL_law_1090 ?_
  refine eVL_130 rfl dL_law_1091 h15 (Nat.le_of_ble_eq_true rfl) (dm _ (fun mi2 ml2 mr2 dom2 hZ2 => ?_))
  exact j_icmp_eq (tgt := 1685) dL_law_1094 (by decide) (fun _ => hs _ _ _ _ hZ2) (fun h => absurd rfl h)
theorem la_27 (hx : SCX X G L xs) (hi : 6 * c + 6 ≤ L) (hL : L ≤ 3072) (h15 : 15 ≤ d) (hc : c < 99999) (hZ : LAZ c mi ml mr dom) (hs : ∀ mi2 ml2 mr2 dom2, LAZ (c + 1) mi2 ml2 mr2 dom2 → J cL_law 7 RL nm rt d G X post bc bs mi2 ml2 mr2 dom2 1685 [some (.ref 598), some (.ref 0), some (.ref 1000), some (.ref 601), some (.int (nI (6 * c))), none, none] []) : J cL_law 7 RL nm rt d G X post bc bs mi ml mr dom 1099 [some (.ref 598), some (.ref 0), some (.ref 1000), some (.ref 601), some (.int (nI (6 * c))), none, none] [] := by
  refine j_aload_n dL_law_1099 rfl rfl ?_
  refine j_aload_n dL_law_1100 rfl rfl ?_
  refine j_iload dL_law_1101 rfl ?_
  refine j_iconst (v := 1) dL_law_1103 (by decide) ?_
  refine j_iadd dL_law_1104 ?_
  refine j_sld hx (idx (k := 1) hi hL (by decide)) dL_law_1105 ?_
  refine eVL_131 rfl dL_law_1106 h15 (Nat.le_of_ble_eq_true rfl) (du_alone hc hZ _ (fun x mi1 ml1 mr1 dom1 dm => ?_))
  refine j_aload_n dL_law_1109 rfl rfl ?_
  refine j_aload_n dL_law_1110 rfl rfl ?_
  refine j_iload dL_law_1111 rfl ?_
  refine j_iconst (v := 1) dL_law_1113 (by decide) ?_
  refine j_iadd dL_law_1114 ?_
  refine j_sld hx (idx (k := 1) hi hL (by decide)) dL_law_1115 ?_
  refine eVL_134 rfl dL_law_1116 h15 (Nat.le_of_ble_eq_true rfl) (dm _ (fun mi2 ml2 mr2 dom2 hZ2 => ?_))
  exact j_icmp_eq (tgt := 1685) dL_law_1119 (by decide) (fun _ => hs _ _ _ _ hZ2) (fun h => absurd rfl h)
theorem la_28 (hx : SCX X G L xs) (hi : 6 * c + 6 ≤ L) (hL : L ≤ 3072) (h15 : 15 ≤ d) (hc : c < 99999) (hZ : LAZ c mi ml mr dom) (hs : ∀ mi2 ml2 mr2 dom2, LAZ (c + 1) mi2 ml2 mr2 dom2 → J cL_law 7 RL nm rt d G X post bc bs mi2 ml2 mr2 dom2 1685 [some (.ref 598), some (.ref 0), some (.ref 1000), some (.ref 601), some (.int (nI (6 * c))), none, none] []) : J cL_law 7 RL nm rt d G X post bc bs mi ml mr dom 1124 [some (.ref 598), some (.ref 0), some (.ref 1000), some (.ref 601), some (.int (nI (6 * c))), none, none] [] := by
  refine j_aload_n dL_law_1124 rfl rfl ?_
  refine eVL_135 rfl dL_law_1125 h15 (Nat.le_of_ble_eq_true rfl) (du_stuck hc hZ _ (fun x mi1 ml1 mr1 dom1 dm => ?_))
  refine j_aload_n dL_law_1128 rfl rfl ?_
  refine eVL_138 rfl dL_law_1129 h15 (Nat.le_of_ble_eq_true rfl) (dm _ (fun mi2 ml2 mr2 dom2 hZ2 => ?_))
  exact j_icmp_eq (tgt := 1685) dL_law_1132 (by decide) (fun _ => hs _ _ _ _ hZ2) (fun h => absurd rfl h)
theorem la_29 (hx : SCX X G L xs) (hi : 6 * c + 6 ≤ L) (hL : L ≤ 3072) (h15 : 15 ≤ d) (hc : c < 99999) (hZ : LAZ c mi ml mr dom) (hs : ∀ mi2 ml2 mr2 dom2, LAZ (c + 1) mi2 ml2 mr2 dom2 → J cL_law 7 RL nm rt d G X post bc bs mi2 ml2 mr2 dom2 1685 [some (.ref 598), some (.ref 0), some (.ref 1000), some (.ref 601), some (.int (nI (6 * c))), none, none] []) : J cL_law 7 RL nm rt d G X post bc bs mi ml mr dom 1137 [some (.ref 598), some (.ref 0), some (.ref 1000), some (.ref 601), some (.int (nI (6 * c))), none, none] [] := by
  refine j_aload_n dL_law_1137 rfl rfl ?_
  refine j_aload_n dL_law_1138 rfl rfl ?_
  refine j_iload dL_law_1139 rfl ?_
  refine j_iconst (v := 1) dL_law_1141 (by decide) ?_
  refine j_iadd dL_law_1142 ?_
  refine j_sld hx (idx (k := 1) hi hL (by decide)) dL_law_1143 ?_
  refine eVL_139 rfl dL_law_1144 h15 (Nat.le_of_ble_eq_true rfl) (du_hands hc hZ _ (fun x mi1 ml1 mr1 dom1 dm => ?_))
  refine j_aload_n dL_law_1147 rfl rfl ?_
  refine j_aload_n dL_law_1148 rfl rfl ?_
  refine j_iload dL_law_1149 rfl ?_
  refine j_iconst (v := 1) dL_law_1151 (by decide) ?_
  refine j_iadd dL_law_1152 ?_
  refine j_sld hx (idx (k := 1) hi hL (by decide)) dL_law_1153 ?_
  refine eVL_142 rfl dL_law_1154 h15 (Nat.le_of_ble_eq_true rfl) (dm _ (fun mi2 ml2 mr2 dom2 hZ2 => ?_))
  exact j_icmp_eq (tgt := 1685) dL_law_1157 (by decide) (fun _ => hs _ _ _ _ hZ2) (fun h => absurd rfl h)
theorem la_30 (hx : SCX X G L xs) (hi : 6 * c + 6 ≤ L) (hL : L ≤ 3072) (h15 : 15 ≤ d) (hc : c < 99999) (hZ : LAZ c mi ml mr dom) (hs : ∀ mi2 ml2 mr2 dom2, LAZ (c + 1) mi2 ml2 mr2 dom2 → J cL_law 7 RL nm rt d G X post bc bs mi2 ml2 mr2 dom2 1685 [some (.ref 598), some (.ref 0), some (.ref 1000), some (.ref 601), some (.int (nI (6 * c))), none, none] []) : J cL_law 7 RL nm rt d G X post bc bs mi ml mr dom 1162 [some (.ref 598), some (.ref 0), some (.ref 1000), some (.ref 601), some (.int (nI (6 * c))), none, none] [] := by
  refine j_aload_n dL_law_1162 rfl rfl ?_
  refine j_aload_n dL_law_1163 rfl rfl ?_
  refine j_iload dL_law_1164 rfl ?_
  refine j_iconst (v := 1) dL_law_1166 (by decide) ?_
  refine j_iadd dL_law_1167 ?_
  refine j_sld hx (idx (k := 1) hi hL (by decide)) dL_law_1168 ?_
  refine eVL_143 rfl dL_law_1169 h15 (Nat.le_of_ble_eq_true rfl) (du_round hc hZ _ (fun x mi1 ml1 mr1 dom1 dm => ?_))
  refine j_aload_n dL_law_1172 rfl rfl ?_
  refine j_aload_n dL_law_1173 rfl rfl ?_
  refine j_iload dL_law_1174 rfl ?_
  refine j_iconst (v := 1) dL_law_1176 (by decide) ?_
  refine j_iadd dL_law_1177 ?_
  refine j_sld hx (idx (k := 1) hi hL (by decide)) dL_law_1178 ?_
  refine eVL_146 rfl dL_law_1179 h15 (Nat.le_of_ble_eq_true rfl) (dm _ (fun mi2 ml2 mr2 dom2 hZ2 => ?_))
  exact j_icmp_eq (tgt := 1685) dL_law_1182 (by decide) (fun _ => hs _ _ _ _ hZ2) (fun h => absurd rfl h)
theorem la_31 (hx : SCX X G L xs) (hi : 6 * c + 6 ≤ L) (hL : L ≤ 3072) (h15 : 15 ≤ d) (hc : c < 99999) (hZ : LAZ c mi ml mr dom) (hs : ∀ mi2 ml2 mr2 dom2, LAZ (c + 1) mi2 ml2 mr2 dom2 → J cL_law 7 RL nm rt d G X post bc bs mi2 ml2 mr2 dom2 1685 [some (.ref 598), some (.ref 0), some (.ref 1000), some (.ref 601), some (.int (nI (6 * c))), none, none] []) : J cL_law 7 RL nm rt d G X post bc bs mi ml mr dom 1187 [some (.ref 598), some (.ref 0), some (.ref 1000), some (.ref 601), some (.int (nI (6 * c))), none, none] [] := by
  refine j_aload_n dL_law_1187 rfl rfl ?_
  refine eVL_147 rfl dL_law_1188 h15 (Nat.le_of_ble_eq_true rfl) (du_pieces hc hZ _ (fun x mi1 ml1 mr1 dom1 dm => ?_))
  refine j_aload_n dL_law_1191 rfl rfl ?_
  refine eVL_150 rfl dL_law_1192 h15 (Nat.le_of_ble_eq_true rfl) (dm _ (fun mi2 ml2 mr2 dom2 hZ2 => ?_))
  exact j_icmp_eq (tgt := 1685) dL_law_1195 (by decide) (fun _ => hs _ _ _ _ hZ2) (fun h => absurd rfl h)
theorem la_32 (hx : SCX X G L xs) (hi : 6 * c + 6 ≤ L) (hL : L ≤ 3072) (h15 : 15 ≤ d) (hc : c < 99999) (hZ : LAZ c mi ml mr dom) (hs : ∀ mi2 ml2 mr2 dom2, LAZ (c + 1) mi2 ml2 mr2 dom2 → J cL_law 7 RL nm rt d G X post bc bs mi2 ml2 mr2 dom2 1685 [some (.ref 598), some (.ref 0), some (.ref 1000), some (.ref 601), some (.int (nI (6 * c))), none, none] []) : J cL_law 7 RL nm rt d G X post bc bs mi ml mr dom 1200 [some (.ref 598), some (.ref 0), some (.ref 1000), some (.ref 601), some (.int (nI (6 * c))), none, none] [] := by
  refine j_aload_n dL_law_1200 rfl rfl ?_
  refine eVL_151 rfl dL_law_1201 h15 (Nat.le_of_ble_eq_true rfl) (du_fits hc hZ _ (fun x mi1 ml1 mr1 dom1 dm => ?_))
  refine j_aload_n dL_law_1204 rfl rfl ?_
  refine eVL_154 rfl dL_law_1205 h15 (Nat.le_of_ble_eq_true rfl) (dm _ (fun mi2 ml2 mr2 dom2 hZ2 => ?_))
  exact j_icmp_eq (tgt := 1685) dL_law_1208 (by decide) (fun _ => hs _ _ _ _ hZ2) (fun h => absurd rfl h)
theorem la_33 (hx : SCX X G L xs) (hi : 6 * c + 6 ≤ L) (hL : L ≤ 3072) (h15 : 15 ≤ d) (hc : c < 99999) (hZ : LAZ c mi ml mr dom) (hs : ∀ mi2 ml2 mr2 dom2, LAZ (c + 1) mi2 ml2 mr2 dom2 → J cL_law 7 RL nm rt d G X post bc bs mi2 ml2 mr2 dom2 1685 [some (.ref 598), some (.ref 0), some (.ref 1000), some (.ref 601), some (.int (nI (6 * c))), none, none] []) : J cL_law 7 RL nm rt d G X post bc bs mi ml mr dom 1213 [some (.ref 598), some (.ref 0), some (.ref 1000), some (.ref 601), some (.int (nI (6 * c))), none, none] [] := by
  refine j_aload_n dL_law_1213 rfl rfl ?_
  refine j_aload_n dL_law_1214 rfl rfl ?_
  refine j_iload dL_law_1215 rfl ?_
  refine j_iconst (v := 1) dL_law_1217 (by decide) ?_
  refine j_iadd dL_law_1218 ?_
  refine j_sld hx (idx (k := 1) hi hL (by decide)) dL_law_1219 ?_
  refine eVL_155 rfl dL_law_1220 h15 (Nat.le_of_ble_eq_true rfl) (du_could hc hZ _ (fun x mi1 ml1 mr1 dom1 dm => ?_))
  refine j_aload_n dL_law_1223 rfl rfl ?_
  refine j_aload_n dL_law_1224 rfl rfl ?_
  refine j_iload dL_law_1225 rfl ?_
  refine j_iconst (v := 1) dL_law_1227 (by decide) ?_
  refine j_iadd dL_law_1228 ?_
  refine j_sld hx (idx (k := 1) hi hL (by decide)) dL_law_1229 ?_
  refine eVL_158 rfl dL_law_1230 h15 (Nat.le_of_ble_eq_true rfl) (dm _ (fun mi2 ml2 mr2 dom2 hZ2 => ?_))
  exact j_icmp_eq (tgt := 1685) dL_law_1233 (by decide) (fun _ => hs _ _ _ _ hZ2) (fun h => absurd rfl h)
theorem la_34 (hx : SCX X G L xs) (hi : 6 * c + 6 ≤ L) (hL : L ≤ 3072) (h15 : 15 ≤ d) (hc : c < 99999) (hZ : LAZ c mi ml mr dom) (hs : ∀ mi2 ml2 mr2 dom2, LAZ (c + 1) mi2 ml2 mr2 dom2 → J cL_law 7 RL nm rt d G X post bc bs mi2 ml2 mr2 dom2 1685 [some (.ref 598), some (.ref 0), some (.ref 1000), some (.ref 601), some (.int (nI (6 * c))), none, none] []) : J cL_law 7 RL nm rt d G X post bc bs mi ml mr dom 1238 [some (.ref 598), some (.ref 0), some (.ref 1000), some (.ref 601), some (.int (nI (6 * c))), none, none] [] := by
  refine j_aload_n dL_law_1238 rfl rfl ?_
  refine j_aload_n dL_law_1239 rfl rfl ?_
  refine j_iload dL_law_1240 rfl ?_
  refine j_iconst (v := 1) dL_law_1242 (by decide) ?_
  refine j_iadd dL_law_1243 ?_
  refine j_sld hx (idx (k := 1) hi hL (by decide)) dL_law_1244 ?_
  refine eVL_159 rfl dL_law_1245 h15 (Nat.le_of_ble_eq_true rfl) (du_surely hc hZ _ (fun x mi1 ml1 mr1 dom1 dm => ?_))
  refine j_aload_n dL_law_1248 rfl rfl ?_
  refine j_aload_n dL_law_1249 rfl rfl ?_
  refine j_iload dL_law_1250 rfl ?_
  refine j_iconst (v := 1) dL_law_1252 (by decide) ?_
  refine j_iadd dL_law_1253 ?_
  refine j_sld hx (idx (k := 1) hi hL (by decide)) dL_law_1254 ?_
  refine eVL_162 rfl dL_law_1255 h15 (Nat.le_of_ble_eq_true rfl) (dm _ (fun mi2 ml2 mr2 dom2 hZ2 => ?_))
  exact j_icmp_eq (tgt := 1685) dL_law_1258 (by decide) (fun _ => hs _ _ _ _ hZ2) (fun h => absurd rfl h)
theorem la_35 (hx : SCX X G L xs) (hi : 6 * c + 6 ≤ L) (hL : L ≤ 3072) (h15 : 15 ≤ d) (hc : c < 99999) (hZ : LAZ c mi ml mr dom) (hs : ∀ mi2 ml2 mr2 dom2, LAZ (c + 1) mi2 ml2 mr2 dom2 → J cL_law 7 RL nm rt d G X post bc bs mi2 ml2 mr2 dom2 1685 [some (.ref 598), some (.ref 0), some (.ref 1000), some (.ref 601), some (.int (nI (6 * c))), none, none] []) : J cL_law 7 RL nm rt d G X post bc bs mi ml mr dom 1263 [some (.ref 598), some (.ref 0), some (.ref 1000), some (.ref 601), some (.int (nI (6 * c))), none, none] [] := by
  refine j_aload_n dL_law_1263 rfl rfl ?_
  refine eVL_163 rfl dL_law_1264 h15 (Nat.le_of_ble_eq_true rfl) (du_ask hc hZ _ (fun x mi1 ml1 mr1 dom1 dm => ?_))
  refine j_aload_n dL_law_1267 rfl rfl ?_
  refine eVL_166 rfl dL_law_1268 h15 (Nat.le_of_ble_eq_true rfl) (dm _ (fun mi2 ml2 mr2 dom2 hZ2 => ?_))
  exact j_icmp_eq (tgt := 1685) dL_law_1271 (by decide) (fun _ => hs _ _ _ _ hZ2) (fun h => absurd rfl h)
theorem la_37 (hx : SCX X G L xs) (hi : 6 * c + 6 ≤ L) (hL : L ≤ 3072) (h15 : 15 ≤ d) (hc : c < 99999) (hZ : LAZ c mi ml mr dom) (hs : ∀ mi2 ml2 mr2 dom2, LAZ (c + 1) mi2 ml2 mr2 dom2 → J cL_law 7 RL nm rt d G X post bc bs mi2 ml2 mr2 dom2 1685 [some (.ref 598), some (.ref 0), some (.ref 1000), some (.ref 601), some (.int (nI (6 * c))), none, none] []) : J cL_law 7 RL nm rt d G X post bc bs mi ml mr dom 1341 [some (.ref 598), some (.ref 0), some (.ref 1000), some (.ref 601), some (.int (nI (6 * c))), none, none] [] := by
  refine j_aload_n dL_law_1341 rfl rfl ?_
  refine eVL_172 rfl dL_law_1342 h15 (Nat.le_of_ble_eq_true rfl) (du_rests hc hZ _ (fun x mi1 ml1 mr1 dom1 dm => ?_))
  refine j_aload_n dL_law_1345 rfl rfl ?_
  refine eVL_175 rfl dL_law_1346 h15 (Nat.le_of_ble_eq_true rfl) (dm _ (fun mi2 ml2 mr2 dom2 hZ2 => ?_))
  exact j_icmp_eq (tgt := 1685) dL_law_1349 (by decide) (fun _ => hs _ _ _ _ hZ2) (fun h => absurd rfl h)
theorem la_38 (hx : SCX X G L xs) (hi : 6 * c + 6 ≤ L) (hL : L ≤ 3072) (h15 : 15 ≤ d) (hc : c < 99999) (hZ : LAZ c mi ml mr dom) (hs : ∀ mi2 ml2 mr2 dom2, LAZ (c + 1) mi2 ml2 mr2 dom2 → J cL_law 7 RL nm rt d G X post bc bs mi2 ml2 mr2 dom2 1685 [some (.ref 598), some (.ref 0), some (.ref 1000), some (.ref 601), some (.int (nI (6 * c))), none, none] []) : J cL_law 7 RL nm rt d G X post bc bs mi ml mr dom 1354 [some (.ref 598), some (.ref 0), some (.ref 1000), some (.ref 601), some (.int (nI (6 * c))), none, none] [] := by
  refine j_aload_n dL_law_1354 rfl rfl ?_
  refine eVL_176 rfl dL_law_1355 h15 (Nat.le_of_ble_eq_true rfl) (du_rest hc hZ _ (fun x mi1 ml1 mr1 dom1 dm => ?_))
  refine j_aload_n dL_law_1358 rfl rfl ?_
  refine eVL_179 rfl dL_law_1359 h15 (Nat.le_of_ble_eq_true rfl) (dm _ (fun mi2 ml2 mr2 dom2 hZ2 => ?_))
  exact j_icmp_eq (tgt := 1685) dL_law_1362 (by decide) (fun _ => hs _ _ _ _ hZ2) (fun h => absurd rfl h)
theorem la_39 (hx : SCX X G L xs) (hi : 6 * c + 6 ≤ L) (hL : L ≤ 3072) (h15 : 15 ≤ d) (hc : c < 99999) (hZ : LAZ c mi ml mr dom) (hs : ∀ mi2 ml2 mr2 dom2, LAZ (c + 1) mi2 ml2 mr2 dom2 → J cL_law 7 RL nm rt d G X post bc bs mi2 ml2 mr2 dom2 1685 [some (.ref 598), some (.ref 0), some (.ref 1000), some (.ref 601), some (.int (nI (6 * c))), none, none] []) : J cL_law 7 RL nm rt d G X post bc bs mi ml mr dom 1367 [some (.ref 598), some (.ref 0), some (.ref 1000), some (.ref 601), some (.int (nI (6 * c))), none, none] [] := by
  refine j_aload_n dL_law_1367 rfl rfl ?_
  refine j_aload_n dL_law_1368 rfl rfl ?_
  refine j_iload dL_law_1369 rfl ?_
  refine j_iconst (v := 1) dL_law_1371 (by decide) ?_
  refine j_iadd dL_law_1372 ?_
  refine j_sld hx (idx (k := 1) hi hL (by decide)) dL_law_1373 ?_
  refine eVL_180 rfl dL_law_1374 h15 (Nat.le_of_ble_eq_true rfl) (du_day hc hZ _ (fun x mi1 ml1 mr1 dom1 dm => ?_))
  refine j_aload_n dL_law_1377 rfl rfl ?_
  refine j_aload_n dL_law_1378 rfl rfl ?_
  refine j_iload dL_law_1379 rfl ?_
  refine j_iconst (v := 1) dL_law_1381 (by decide) ?_
  refine j_iadd dL_law_1382 ?_
  refine j_sld hx (idx (k := 1) hi hL (by decide)) dL_law_1383 ?_
  refine eVL_183 rfl dL_law_1384 h15 (Nat.le_of_ble_eq_true rfl) (dm _ (fun mi2 ml2 mr2 dom2 hZ2 => ?_))
  exact j_icmp_eq (tgt := 1685) dL_law_1387 (by decide) (fun _ => hs _ _ _ _ hZ2) (fun h => absurd rfl h)
theorem la_40 (hx : SCX X G L xs) (hi : 6 * c + 6 ≤ L) (hL : L ≤ 3072) (h15 : 15 ≤ d) (hc : c < 99999) (hZ : LAZ c mi ml mr dom) (hs : ∀ mi2 ml2 mr2 dom2, LAZ (c + 1) mi2 ml2 mr2 dom2 → J cL_law 7 RL nm rt d G X post bc bs mi2 ml2 mr2 dom2 1685 [some (.ref 598), some (.ref 0), some (.ref 1000), some (.ref 601), some (.int (nI (6 * c))), none, none] []) : J cL_law 7 RL nm rt d G X post bc bs mi ml mr dom 1392 [some (.ref 598), some (.ref 0), some (.ref 1000), some (.ref 601), some (.int (nI (6 * c))), none, none] [] := by
  refine j_aload_n dL_law_1392 rfl rfl ?_
  refine j_aload_n dL_law_1393 rfl rfl ?_
  refine j_iload dL_law_1394 rfl ?_
  refine j_iconst (v := 1) dL_law_1396 (by decide) ?_
  refine j_iadd dL_law_1397 ?_
  refine j_sld hx (idx (k := 1) hi hL (by decide)) dL_law_1398 ?_
  refine j_aload_n dL_law_1399 rfl rfl ?_
  refine j_iload dL_law_1400 rfl ?_
  refine j_iconst (v := 2) dL_law_1402 (by decide) ?_
  refine j_iadd dL_law_1403 ?_
  refine j_sld hx (idx (k := 2) hi hL (by decide)) dL_law_1404 ?_
  refine j_aload_n dL_law_1405 rfl rfl ?_
  refine j_iload dL_law_1406 rfl ?_
  refine j_iconst (v := 3) dL_law_1408 (by decide) ?_
  refine j_iadd dL_law_1409 ?_
  refine j_sld hx (idx (k := 3) hi hL (by decide)) dL_law_1410 ?_
  refine eVL_184 rfl dL_law_1411 h15 (Nat.le_of_ble_eq_true rfl) (du_dayOf hc hZ _ (fun x mi1 ml1 mr1 dom1 dm => ?_))
  refine j_aload_n dL_law_1414 rfl rfl ?_
  refine j_aload_n dL_law_1415 rfl rfl ?_
  refine j_iload dL_law_1416 rfl ?_
  refine j_iconst (v := 1) dL_law_1418 (by decide) ?_
  refine j_iadd dL_law_1419 ?_
  refine j_sld hx (idx (k := 1) hi hL (by decide)) dL_law_1420 ?_
  refine j_aload_n dL_law_1421 rfl rfl ?_
  refine j_iload dL_law_1422 rfl ?_
  refine j_iconst (v := 2) dL_law_1424 (by decide) ?_
  refine j_iadd dL_law_1425 ?_
  refine j_sld hx (idx (k := 2) hi hL (by decide)) dL_law_1426 ?_
  refine j_aload_n dL_law_1427 rfl rfl ?_
  refine j_iload dL_law_1428 rfl ?_
  refine j_iconst (v := 3) dL_law_1430 (by decide) ?_
  refine j_iadd dL_law_1431 ?_
  refine j_sld hx (idx (k := 3) hi hL (by decide)) dL_law_1432 ?_
  refine eVL_187 rfl dL_law_1433 h15 (Nat.le_of_ble_eq_true rfl) (dm _ (fun mi2 ml2 mr2 dom2 hZ2 => ?_))
  exact j_icmp_eq (tgt := 1685) dL_law_1436 (by decide) (fun _ => hs _ _ _ _ hZ2) (fun h => absurd rfl h)
theorem la_41 (hx : SCX X G L xs) (hi : 6 * c + 6 ≤ L) (hL : L ≤ 3072) (h15 : 15 ≤ d) (hc : c < 99999) (hZ : LAZ c mi ml mr dom) (hs : ∀ mi2 ml2 mr2 dom2, LAZ (c + 1) mi2 ml2 mr2 dom2 → J cL_law 7 RL nm rt d G X post bc bs mi2 ml2 mr2 dom2 1685 [some (.ref 598), some (.ref 0), some (.ref 1000), some (.ref 601), some (.int (nI (6 * c))), none, none] []) : J cL_law 7 RL nm rt d G X post bc bs mi ml mr dom 1441 [some (.ref 598), some (.ref 0), some (.ref 1000), some (.ref 601), some (.int (nI (6 * c))), none, none] [] := by
  refine j_aload_n dL_law_1441 rfl rfl ?_
  refine j_aload_n dL_law_1442 rfl rfl ?_
  refine j_iload dL_law_1443 rfl ?_
  refine j_iconst (v := 1) dL_law_1445 (by decide) ?_
  refine j_iadd dL_law_1446 ?_
  refine j_sld hx (idx (k := 1) hi hL (by decide)) dL_law_1447 ?_
  refine j_aload_n dL_law_1448 rfl rfl ?_
  refine j_iload dL_law_1449 rfl ?_
  refine j_iconst (v := 2) dL_law_1451 (by decide) ?_
  refine j_iadd dL_law_1452 ?_
  refine j_sld hx (idx (k := 2) hi hL (by decide)) dL_law_1453 ?_
  refine eVL_188 rfl dL_law_1454 h15 (Nat.le_of_ble_eq_true rfl) (du_go hc hZ _ (fun x mi1 ml1 mr1 dom1 dm => ?_))
  refine j_aload_n dL_law_1457 rfl rfl ?_
  refine j_aload_n dL_law_1458 rfl rfl ?_
  refine j_iload dL_law_1459 rfl ?_
  refine j_iconst (v := 1) dL_law_1461 (by decide) ?_
  refine j_iadd dL_law_1462 ?_
  refine j_sld hx (idx (k := 1) hi hL (by decide)) dL_law_1463 ?_
  refine j_aload_n dL_law_1464 rfl rfl ?_
  refine j_iload dL_law_1465 rfl ?_
  refine j_iconst (v := 2) dL_law_1467 (by decide) ?_
  refine j_iadd dL_law_1468 ?_
  refine j_sld hx (idx (k := 2) hi hL (by decide)) dL_law_1469 ?_
  refine eVL_191 rfl dL_law_1470 h15 (Nat.le_of_ble_eq_true rfl) (dm _ (fun mi2 ml2 mr2 dom2 hZ2 => ?_))
  exact j_icmp_eq (tgt := 1685) dL_law_1473 (by decide) (fun _ => hs _ _ _ _ hZ2) (fun h => absurd rfl h)
theorem la_42 (hx : SCX X G L xs) (hi : 6 * c + 6 ≤ L) (hL : L ≤ 3072) (h15 : 15 ≤ d) (hc : c < 99999) (hZ : LAZ c mi ml mr dom) (hs : ∀ mi2 ml2 mr2 dom2, LAZ (c + 1) mi2 ml2 mr2 dom2 → J cL_law 7 RL nm rt d G X post bc bs mi2 ml2 mr2 dom2 1685 [some (.ref 598), some (.ref 0), some (.ref 1000), some (.ref 601), some (.int (nI (6 * c))), none, none] []) : J cL_law 7 RL nm rt d G X post bc bs mi ml mr dom 1478 [some (.ref 598), some (.ref 0), some (.ref 1000), some (.ref 601), some (.int (nI (6 * c))), none, none] [] := by
  refine j_aload_n dL_law_1478 rfl rfl ?_
  refine j_aload_n dL_law_1479 rfl rfl ?_
  refine j_iload dL_law_1480 rfl ?_
  refine j_iconst (v := 1) dL_law_1482 (by decide) ?_
  refine j_iadd dL_law_1483 ?_
  refine j_sld hx (idx (k := 1) hi hL (by decide)) dL_law_1484 ?_
  refine j_aload_n dL_law_1485 rfl rfl ?_
  refine j_iload dL_law_1486 rfl ?_
  refine j_iconst (v := 2) dL_law_1488 (by decide) ?_
  refine j_iadd dL_law_1489 ?_
  refine j_sld hx (idx (k := 2) hi hL (by decide)) dL_law_1490 ?_
  refine eVL_192 rfl dL_law_1491 h15 (Nat.le_of_ble_eq_true rfl) (du_hand hc hZ _ (fun x mi1 ml1 mr1 dom1 dm => ?_))
  refine j_aload_n dL_law_1494 rfl rfl ?_
  refine j_aload_n dL_law_1495 rfl rfl ?_
  refine j_iload dL_law_1496 rfl ?_
  refine j_iconst (v := 1) dL_law_1498 (by decide) ?_
  refine j_iadd dL_law_1499 ?_
  refine j_sld hx (idx (k := 1) hi hL (by decide)) dL_law_1500 ?_
  refine j_aload_n dL_law_1501 rfl rfl ?_
  refine j_iload dL_law_1502 rfl ?_
  refine j_iconst (v := 2) dL_law_1504 (by decide) ?_
  refine j_iadd dL_law_1505 ?_
  refine j_sld hx (idx (k := 2) hi hL (by decide)) dL_law_1506 ?_
  refine eVL_196 rfl dL_law_1507 h15 (Nat.le_of_ble_eq_true rfl) (dm _ (fun mi2 ml2 mr2 dom2 hZ2 => ?_))
  exact j_icmp_eq (tgt := 1685) dL_law_1510 (by decide) (fun _ => hs _ _ _ _ hZ2) (fun h => absurd rfl h)
theorem la_43 (hx : SCX X G L xs) (hi : 6 * c + 6 ≤ L) (hL : L ≤ 3072) (h15 : 15 ≤ d) (hc : c < 99999) (hZ : LAZ c mi ml mr dom) (hs : ∀ mi2 ml2 mr2 dom2, LAZ (c + 1) mi2 ml2 mr2 dom2 → J cL_law 7 RL nm rt d G X post bc bs mi2 ml2 mr2 dom2 1685 [some (.ref 598), some (.ref 0), some (.ref 1000), some (.ref 601), some (.int (nI (6 * c))), none, none] []) : J cL_law 7 RL nm rt d G X post bc bs mi ml mr dom 1515 [some (.ref 598), some (.ref 0), some (.ref 1000), some (.ref 601), some (.int (nI (6 * c))), none, none] [] := by
  refine j_aload_n dL_law_1515 rfl rfl ?_
  refine j_aload_n dL_law_1516 rfl rfl ?_
  refine j_iload dL_law_1517 rfl ?_
  refine j_iconst (v := 1) dL_law_1519 (by decide) ?_
  refine j_iadd dL_law_1520 ?_
  refine j_sld hx (idx (k := 1) hi hL (by decide)) dL_law_1521 ?_
  refine eVL_197 rfl dL_law_1522 h15 (Nat.le_of_ble_eq_true rfl) (du_hours hc hZ _ (fun x mi1 ml1 mr1 dom1 dm => ?_))
  refine j_aload_n dL_law_1525 rfl rfl ?_
  refine j_aload_n dL_law_1526 rfl rfl ?_
  refine j_iload dL_law_1527 rfl ?_
  refine j_iconst (v := 1) dL_law_1529 (by decide) ?_
  refine j_iadd dL_law_1530 ?_
  refine j_sld hx (idx (k := 1) hi hL (by decide)) dL_law_1531 ?_
  refine eVL_200 rfl dL_law_1532 h15 (Nat.le_of_ble_eq_true rfl) (dm _ (fun mi2 ml2 mr2 dom2 hZ2 => ?_))
  exact j_icmp_eq (tgt := 1685) dL_law_1535 (by decide) (fun _ => hs _ _ _ _ hZ2) (fun h => absurd rfl h)
theorem la_44 (hx : SCX X G L xs) (hi : 6 * c + 6 ≤ L) (hL : L ≤ 3072) (h15 : 15 ≤ d) (hc : c < 99999) (hZ : LAZ c mi ml mr dom) (hs : ∀ mi2 ml2 mr2 dom2, LAZ (c + 1) mi2 ml2 mr2 dom2 → J cL_law 7 RL nm rt d G X post bc bs mi2 ml2 mr2 dom2 1685 [some (.ref 598), some (.ref 0), some (.ref 1000), some (.ref 601), some (.int (nI (6 * c))), none, none] []) : J cL_law 7 RL nm rt d G X post bc bs mi ml mr dom 1540 [some (.ref 598), some (.ref 0), some (.ref 1000), some (.ref 601), some (.int (nI (6 * c))), none, none] [] := by
  refine j_aload_n dL_law_1540 rfl rfl ?_
  refine eVL_201 rfl dL_law_1541 h15 (Nat.le_of_ble_eq_true rfl) (du_undo hc hZ _ (fun x mi1 ml1 mr1 dom1 dm => ?_))
  refine j_aload_n dL_law_1544 rfl rfl ?_
  refine eVL_205 rfl dL_law_1545 h15 (Nat.le_of_ble_eq_true rfl) (dm _ (fun mi2 ml2 mr2 dom2 hZ2 => ?_))
  exact j_icmp_eq (tgt := 1685) dL_law_1548 (by decide) (fun _ => hs _ _ _ _ hZ2) (fun h => absurd rfl h)
theorem la_45 (hx : SCX X G L xs) (hi : 6 * c + 6 ≤ L) (hL : L ≤ 3072) (h15 : 15 ≤ d) (hc : c < 99999) (hZ : LAZ c mi ml mr dom) (hs : ∀ mi2 ml2 mr2 dom2, LAZ (c + 1) mi2 ml2 mr2 dom2 → J cL_law 7 RL nm rt d G X post bc bs mi2 ml2 mr2 dom2 1685 [some (.ref 598), some (.ref 0), some (.ref 1000), some (.ref 601), some (.int (nI (6 * c))), none, none] []) : J cL_law 7 RL nm rt d G X post bc bs mi ml mr dom 1553 [some (.ref 598), some (.ref 0), some (.ref 1000), some (.ref 601), some (.int (nI (6 * c))), none, none] [] := by
  refine j_aload_n dL_law_1553 rfl rfl ?_
  refine eVL_206 rfl dL_law_1554 h15 (Nat.le_of_ble_eq_true rfl) (du_image hc hZ _ (fun x mi1 ml1 mr1 dom1 dm => ?_))
  refine j_aload_n dL_law_1557 rfl rfl ?_
  refine eVL_209 rfl dL_law_1558 h15 (Nat.le_of_ble_eq_true rfl) (dm _ (fun mi2 ml2 mr2 dom2 hZ2 => ?_))
  exact j_icmp_eq (tgt := 1685) dL_law_1561 (by decide) (fun _ => hs _ _ _ _ hZ2) (fun h => absurd rfl h)
theorem la_46 (hx : SCX X G L xs) (hi : 6 * c + 6 ≤ L) (hL : L ≤ 3072) (h15 : 15 ≤ d) (hc : c < 99999) (hZ : LAZ c mi ml mr dom) (hs : ∀ mi2 ml2 mr2 dom2, LAZ (c + 1) mi2 ml2 mr2 dom2 → J cL_law 7 RL nm rt d G X post bc bs mi2 ml2 mr2 dom2 1685 [some (.ref 598), some (.ref 0), some (.ref 1000), some (.ref 601), some (.int (nI (6 * c))), none, none] []) : J cL_law 7 RL nm rt d G X post bc bs mi ml mr dom 1566 [some (.ref 598), some (.ref 0), some (.ref 1000), some (.ref 601), some (.int (nI (6 * c))), none, none] [] := by
  refine j_aload_n dL_law_1566 rfl rfl ?_
  refine j_aload_n dL_law_1567 rfl rfl ?_
  refine j_iload dL_law_1568 rfl ?_
  refine j_iconst (v := 1) dL_law_1570 (by decide) ?_
  refine j_iadd dL_law_1571 ?_
  refine j_sld hx (idx (k := 1) hi hL (by decide)) dL_law_1572 ?_
  refine eVL_210 rfl dL_law_1573 h15 (Nat.le_of_ble_eq_true rfl) (du_back hc hZ _ (fun x mi1 ml1 mr1 dom1 dm => ?_))
  refine j_aload_n dL_law_1576 rfl rfl ?_
  refine j_aload_n dL_law_1577 rfl rfl ?_
  refine j_iload dL_law_1578 rfl ?_
  refine j_iconst (v := 1) dL_law_1580 (by decide) ?_
  refine j_iadd dL_law_1581 ?_
  refine j_sld hx (idx (k := 1) hi hL (by decide)) dL_law_1582 ?_
  refine eVL_214 rfl dL_law_1583 h15 (Nat.le_of_ble_eq_true rfl) (dm _ (fun mi2 ml2 mr2 dom2 hZ2 => ?_))
  exact j_icmp_eq (tgt := 1685) dL_law_1586 (by decide) (fun _ => hs _ _ _ _ hZ2) (fun h => absurd rfl h)
theorem la_48 (hx : SCX X G L xs) (hi : 6 * c + 6 ≤ L) (hL : L ≤ 3072) (h15 : 15 ≤ d) (hc : c < 99999) (hZ : LAZ c mi ml mr dom) (hs : ∀ mi2 ml2 mr2 dom2, LAZ (c + 1) mi2 ml2 mr2 dom2 → J cL_law 7 RL nm rt d G X post bc bs mi2 ml2 mr2 dom2 1685 [some (.ref 598), some (.ref 0), some (.ref 1000), some (.ref 601), some (.int (nI (6 * c))), none, none] []) : J cL_law 7 RL nm rt d G X post bc bs mi ml mr dom 1647 [some (.ref 598), some (.ref 0), some (.ref 1000), some (.ref 601), some (.int (nI (6 * c))), none, none] [] := by
  refine j_aload_n dL_law_1647 rfl rfl ?_
  refine j_aload_n dL_law_1648 rfl rfl ?_
  refine j_iload dL_law_1649 rfl ?_
  refine j_iconst (v := 1) dL_law_1651 (by decide) ?_
  refine j_iadd dL_law_1652 ?_
  refine j_sld hx (idx (k := 1) hi hL (by decide)) dL_law_1653 ?_
  refine eVL_224 rfl dL_law_1654 h15 (Nat.le_of_ble_eq_true rfl) (du_size hc hZ _ (fun x mi1 ml1 mr1 dom1 dm => ?_))
  refine j_aload_n dL_law_1657 rfl rfl ?_
  refine j_aload_n dL_law_1658 rfl rfl ?_
  refine j_iload dL_law_1659 rfl ?_
  refine j_iconst (v := 1) dL_law_1661 (by decide) ?_
  refine j_iadd dL_law_1662 ?_
  refine j_sld hx (idx (k := 1) hi hL (by decide)) dL_law_1663 ?_
  refine eVL_227 rfl dL_law_1664 h15 (Nat.le_of_ble_eq_true rfl) (dm _ (fun mi2 ml2 mr2 dom2 hZ2 => ?_))
  exact j_icmp_eq (tgt := 1685) dL_law_1667 (by decide) (fun _ => hs _ _ _ _ hZ2) (fun h => absurd rfl h)
theorem la_49 (hx : SCX X G L xs) (hi : 6 * c + 6 ≤ L) (hL : L ≤ 3072) (h15 : 15 ≤ d) (hc : c < 99999) (hZ : LAZ c mi ml mr dom) (hs : ∀ mi2 ml2 mr2 dom2, LAZ (c + 1) mi2 ml2 mr2 dom2 → J cL_law 7 RL nm rt d G X post bc bs mi2 ml2 mr2 dom2 1685 [some (.ref 598), some (.ref 0), some (.ref 1000), some (.ref 601), some (.int (nI (6 * c))), none, none] []) : J cL_law 7 RL nm rt d G X post bc bs mi ml mr dom 1672 [some (.ref 598), some (.ref 0), some (.ref 1000), some (.ref 601), some (.int (nI (6 * c))), none, none] [] := by
  refine j_aload_n dL_law_1672 rfl rfl ?_
  refine eVL_228 rfl dL_law_1673 h15 (Nat.le_of_ble_eq_true rfl) (du_trouble hc hZ _ (fun x mi1 ml1 mr1 dom1 dm => ?_))
  refine j_aload_n dL_law_1676 rfl rfl ?_
  refine eVL_231 rfl dL_law_1677 h15 (Nat.le_of_ble_eq_true rfl) (dm _ (fun mi2 ml2 mr2 dom2 hZ2 => ?_))
  exact j_icmp_eq (tgt := 1685) dL_law_1680 (by decide) (fun _ => hs _ _ _ _ hZ2) (fun h => absurd rfl h)
end LAW
