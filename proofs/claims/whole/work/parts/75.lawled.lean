/-! the law's led: it catches -/
def hhL : List (Nat × Nat × Nat × Nat) := [(0, 9, 12, 13)]
theorem wdLW : Cond.codeWith yL_led cL_led 4 (some .int) hhL ∈ wtbl := wt5 220 (by decide +kernel) (by decide +kernel)
theorem wdCL : Cond.classLink RL 13 NSE ∈ wtbl := wd1286
def CTW (G : GG) (d mc ms : Nat) (args : List Value) (mi : MI) (ml : ML) (mr : MR) (dom : List Nat) (post : PT) : Prop :=
  ∀ (l : Launch) (ad : Nat → Nat), l.stackTraces = false → Met l yL_led (.codeWith yL_led cL_led 4 (some .int) hhL :: wtbl) (rmx d mc ms) (Px G ad args mi ml mr dom) (Qx G ad dom post) mc ms (gA G)
def SXw (X : Cx) : Prop := match X with
  | (_, l, _, _, _, _, _, _, _, c, _, _) => l.stackTraces = false ∧ c.exceptionTable.toList = tableOf hhL
theorem enterW {d mc ms : Nat} {G : GG} {post : PT} {mi : MI} {ml : ML} {mr : MR} {dom : List Nat} {args : List Value} {lv0 : List (Option Value)} (k : Nat) (hy : plainName yL_led.cls = true) (hlv : ent args ++ List.replicate k none = lv0) (hlen : lv0.length = 4) (body : ∀ X : Cx, SXw X → J cL_led 4 yL_led.cls yL_led.name (some .int) d G X post mc ms mi ml mr dom 0 lv0 []) : CTW G d mc ms args mi ml mr dom post := by
  intro l ad hst
  refine va_MetW (hh := hhL) (cc := cL_led) (maxL := 4) (ret := some .int) hy rfl ?_
  intro p e s m args' below meth c s₁ B hml hv
  obtain ⟨rfl, hoks, hRel, hSl, hKN⟩ := hv
  have hts := atoms_spec (ws := .codeWith yL_led cL_led 4 (some .int) hhL :: wtbl) B.pre
  have hok : OkX cL_led 4 yL_led.cls yL_led.name (some .int) d G (p, l, e, rmx d mc ms, s, m, (args.map (rn ad)).toArray, below, meth, c, ad, dom) :=
    ⟨B.exec, B.bytes, hml, findClass_of_methodNamed B.named, fun w hw => hts w (List.mem_cons_of_mem _ hw), hKN, B.notSynchronized, B.returns, (name_of_methodNamed B.named B.method).1, rfl, rfl⟩
  have hl2 := ent_len ad args
  have hlen2 : (ent args).length ≤ 4 := by rw [← hlen, ← hlv]; simp
  have hl := lv_entry (args.map (rn ad)) (n := 4) (by rw [hl2]; exact hlen2)
  rw [lg_entry_eq]
  refine body (p, l, e, rmx d mc ms, s, m, (args.map (rn ad)).toArray, below, meth, c, ad, dom) ⟨hst, vx_table (x := yL_led) B (hts _ List.mem_cons_self)⟩ hok ad s.heap [] 0 0 _ hRel hSl (fun n hn => ⟨hn, rfl⟩) (by simp) (by simp) ⟨hl.1, hl.2.1, fun q hq => ?_⟩ (fun v hv => ?_) (fun v hv => by cases hv)
  · obtain ⟨w, h1, h2⟩ := lvl_inv hq
    rw [← hlv] at h1
    have h3 : (ent args)[q.1]? = some (some w) := by
      by_cases hlt : q.1 < (ent args).length
      · rwa [List.getElem?_append_left hlt] at h1
      · rw [List.getElem?_append_right (by omega)] at h1
        have := List.eq_of_mem_replicate (List.mem_of_getElem? h1)
        cases this
    have h4 := hl.2.2 _ (ent_get ad args 0 q.1 w h3)
    rw [Nat.zero_add] at h4
    rw [h2]; exact h4
  · rw [← hlv] at hv
    rcases List.mem_append.mp hv with h | h
    · exact ent_ok hoks v h
    · have := List.eq_of_mem_replicate h
      cases this
section LLED
variable {d : Nat} {G : GG} {X : Cx} {post : PT} {bc bs : Nat} {mi : MI} {ml : ML} {mr : MR} {dom : List Nat} {T : Nat} {t : TW} {v : Nat → Nat} {nm : String} {rt : Option FieldType} {lv : List (Option Value)} {st : List Value}
theorem j_caught {d' : Nat} {x : Int32} (hGW : GW G) (hxw : SXw X) (h3 : lv[3]? = some none) (hz : nolong lv 3 = true) (hdd : d' + 1 ≤ d) (hmc : 1 ≤ bc) (hms : 6 ≤ bs) (hst : (st.map fun v => v.category).sum ≤ 8)
    (ct : XCT G d' 1 6 yX11_led cX11_led 4 (some .int) [.ref 0, .int x] mi ml mr dom) (k : J cL_led 4 RL nm rt d G X post (bc - 1) (bs - 6) mi ml mr dom 13 lv []) : J cL_led 4 RL nm rt d G X post bc bs mi ml mr dom 4 lv (.int x :: .ref 0 :: st) := by
  obtain ⟨p, l, e, R, s, m, args, below, meth, c, ad0, dom0⟩ := X
  obtain ⟨hst9, htab⟩ := hxw
  intro ok ad H locs cells slots ls hR hS hE hc2 hs hl hol hos
  have hosr : oks dom st := fun v hv => hos v (List.mem_cons_of_mem _ (List.mem_cons_of_mem _ hv))
  have hosa : oks dom [.ref 0, .int x] := fun v hv => by
    rcases List.mem_cons.mp hv with rfl | hv
    · exact hos _ (List.mem_cons_of_mem _ List.mem_cons_self)
    · rcases List.mem_cons.mp hv with rfl | hv
      · exact okv_int _ _
      · cases hv
  obtain ⟨q0, hq0, hw⟩ := wl_get (G := G) (ad := ad) (mi := mi) (ml := ml) (mr := mr) (in_dom (a := 0) hosa (by decide))
  rw [cel_obj (k := 11) rfl (by decide)] at hw
  have hkn : KN G s := ok.2.2.2.2.2.1
  have hrun := vx_runV (p := p) (l := l) (e := e) (R := R) (s := s) (m := m) (args := args) (below := below) (meth := meth) (c := c) (H := H) (locs := locs) (cells := cells) (slots := slots) (g := F0 m 4 ls ((.int x :: .ref 0 :: st).map (rn ad))) (rest := st.map (rn ad)) (C := RX11) (b := ad 0) (As := [Value.int x]) (n := 1) (nL := 4) ⟨ok.1, ok.2.1, ok.2.2.1, ok.2.2.2.1, ok.2.2.2.2.1⟩ (ct l ad hst9) ⟨j_callB (n := 1) ok.2.2.2.2.1 wd106 wd1287 wd1290 ⟨by decide +kernel, by decide +kernel, by decide +kernel⟩ (by rw [ok.2.2.2.2.2.2.2.2.2.1]; exact hdd) (by rw [ok.2.2.2.2.2.2.2.2.2.2]; omega), ok.2.2.2.2.1 _ wd1288, ok.2.2.2.2.1 _ wd1289⟩ ⟨Px_blind, va_recv hkn.1 hR.1 rfl hw, j_pre (As := [.ref 0, .int x]) hkn hR hS hosa⟩ rfl rfl hl.1 (by simp [rn]) (lv_room (by rw [rn_cats]; exact hst)) dL_led_4 ⟨by omega, by omega⟩
  intro TT hTT X9
  rcases hrun TT hTT X9 with ⟨v9, st₀, t9, T', L, h0, X', hL, e1, e2, hF, -⟩ | ⟨q, st₀, t9, T', L, E, ce, h0, X', hL, e1, e2, ⟨hE9, ad2, hR2, hS2, hA2⟩, hce, hcv, hcl, st2⟩
  · exact hF.elim
  · subst hE9
    have hlit : ∀ n, lit n → ad2 n = ad n := fun n hn => (hR2.2.2.2.1 n hn).trans (hR.2.2.2.1 n hn).symm
    have hE2 : ∀ n ∈ dom, n ∈ dom ∧ ad2 n = ad n := fun n hn => ⟨hn, hA2 n hn⟩
    have hS3 : va_S (gA G) G.2.2.1 T'.heap (locs ++ L) := by
      rw [e1]
      exact ⟨hS2.1, hS2.2.1, fun q hq => (List.mem_append.mp hq).elim (hS.2.2 q) (hL q)⟩
    have hsplit : c.exceptionTable.toList = [] ++ (tableOf hhL).head (by decide) :: [] := by rw [htab]; rfl
    have kW : vx_W p l e R s m args below meth c T'.heap (locs ++ L) (cells + 1) (slots + 6) (MQ below (Qx G ad0 dom0 post) args s R.cells R.slots (gA G)) (F0 m 4 ls (st.map (rn ad))) q := by
      refine vx_catch (own := RL) (name := NSE) (E := NSE) (ce := ce) ok.2.2.2.1 [] _ [] hsplit (fun z hz => by cases hz) (by decide) (by decide) (ok.2.2.2.2.1 _ wdCL) (va_Nw.use (Bx_on _ (by decide)) (hGW s hkn.2.1 (.castable NSE NSE) (by decide))) (by rw [e1]; exact hce) hcv hcl ?_
      refine lv_astore_n (k := 3) (i := 3) ok.1 ok.2.1 dL_led_12 rfl hl (by decide) rfl (fun ls2 hl2 => ?_)
      refine k ok ad2 T'.heap (locs ++ L) (cells + 1) (slots + 6) ls2 (by rw [e1]; exact hR2) hS3 (fun n hn => ⟨(hE n hn).1, (hA2 n (hE n hn).1).trans (hE n hn).2⟩) (by omega) (by omega) ⟨hl2.1, hl2.2.1, fun w9 hw9 => ?_⟩ hol (fun _ h => by cases h)
      obtain ⟨x9, g1, g2⟩ := lvl_inv hw9
      have hm : w9 ∈ lvl ad lv := by
        have := lvl_mem (ad := ad) g1
        rw [← rn_eq hlit hE2 (hol.at g1), ← g2] at this
        exact this
      refine hl2.2.2 _ (List.mem_cons_of_mem _ (List.mem_filter.mpr ⟨hm, ?_⟩))
      have c1 : (w9.1 == 3) = false := by
        by_cases q3 : w9.1 = 3
        · rw [q3, h3] at g1; cases g1
        · simp [q3]
      have c2 : (w9.1 + 1 == 3 && w9.2.category == 2) = false := by
        by_cases hj : w9.1 + 1 = 3
        · have hj2 : w9.1 = 2 := by omega
          rw [hj2] at g1
          have : x9.category = 1 := by
            have := hz
            simp only [nolong, g1] at this
            simpa using this
          rw [g2, rn_cat, this]; simp
        · rw [show (w9.1 + 1 == 3) = false from beq_eq_false_iff_ne.mpr hj]; rfl
      rw [c1, c2]; rfl
    obtain ⟨t2, a1, b1⟩ := kW T' rfl X'
    exact ⟨t2, st2.trans a1, b1⟩
theorem lL_ok {x : Int32} {g : Nat} (hX : XR mr) (hT : TT T) (hTn : mr 0 2 = some T) (hW : WT t) (hR : RX mi T t) (hG : GP mi t v) (hg : g < t 0 6) (hL : LED t v x g) (hp : post (some (.int 0)) mi (upl ml 601 0 (nI g).toInt64) mr dom) : CTW G 9 1 6 [.ref 0, .int x, .ref 601] mi ml mr dom post := by
  refine enterW 1 (by decide) rfl rfl (fun X hxw => ?_)
  refine j_aload_n dL_led_0 rfl rfl ?_
  refine j_iconst (v := 0) dL_led_1 (by decide) ?_
  refine j_aload_n dL_led_2 rfl rfl ?_
  refine j_iload_n dL_led_3 rfl rfl ?_
  refine cVL_7 (d1 := 2) rfl dL_led_4 (by decide) (Nat.le_of_ble_eq_true rfl) ?_
  refine cx_led hX hT hTn hW hR hG hg hL ?_
  refine j_i2l dL_led_7 ?_
  refine j_last (a := 601) rfl (inT (n := 0) (N := 1) rfl (by decide) (by decide)) dL_led_8 ?_
  refine j_goto (tgt := 15) dL_led_9 (by decide) ?_
  refine j_iconst (v := 0) dL_led_15 (by decide) ?_
  refine j_iret rfl dL_led_16 ?_
  exact hp
theorem lL_no {x : Int32} (hGW : GW G) (hX : XR mr) (hT : TT T) (hTn : mr 0 2 = some T) (hW : WT t) (hR : RX mi T t) (hG : GP mi t v) (hno : ∀ g, g < t 0 6 → ¬ LED t v x g) (hp : post (some (.int 1)) mi ml mr dom) : CTW G 9 1 6 [.ref 0, .int x, .ref 601] mi ml mr dom post := by
  refine enterW 1 (by decide) rfl rfl (fun X hxw => ?_)
  refine j_aload_n dL_led_0 rfl rfl ?_
  refine j_iconst (v := 0) dL_led_1 (by decide) ?_
  refine j_aload_n dL_led_2 rfl rfl ?_
  refine j_iload_n dL_led_3 rfl rfl ?_
  refine j_caught hGW hxw rfl rfl (by decide) (by decide) (by decide) (Nat.le_of_ble_eq_true rfl) (xx_led hGW hX hT hTn hW hR hG hno) ?_
  refine j_iconst (v := 1) dL_led_13 (by decide) ?_
  refine j_iret rfl dL_led_14 ?_
  exact hp
/-- the law's own call of it -/
theorem j_callSW {cc : ByteArray} {nL pc : Nat} {x : Int32} (hxl : match X with | (_, l, _, _, _, _, _, _, _, _, _, _) => l.stackTraces = false) (hd : decode cc pc = .ok (.invokestatic 215, 3)) (hdd : 10 ≤ d) (hmc : 1 ≤ bc) (hms : 6 ≤ bs) (hst : (st.map fun v => v.category).sum ≤ 8)
    (ct : CTW G 9 1 6 [.ref 0, .int x, .ref 601] mi ml mr dom (fun v mi' ml' mr' dom' => J cc nL RL nm rt d G X post (bc - 1) (bs - 6) mi' ml' mr' dom' (pc + 3) lv (vst v st))) : J cc nL RL nm rt d G X post bc bs mi ml mr dom pc lv (.ref 601 :: .int x :: .ref 0 :: st) := by
  obtain ⟨p, l, e, R, s, m, args, below, meth, c, ad0, dom0⟩ := X
  have hxl : l.stackTraces = false := hxl
  intro ok ad H locs cells slots ls hR hS hE hc2 hs hl hol hos
  have hosr : oks dom st := fun v hv => hos v (List.mem_cons_of_mem _ (List.mem_cons_of_mem _ (List.mem_cons_of_mem _ hv)))
  have hosa : oks dom [.ref 0, .int x, .ref 601] := fun v hv => by
    rcases List.mem_cons.mp hv with rfl | hv
    · exact hos _ (by simp)
    · rcases List.mem_cons.mp hv with rfl | hv
      · exact okv_int _ _
      · rcases List.mem_cons.mp hv with rfl | hv
        · exact hos _ (by simp)
        · cases hv
  have hkn : KN G s := ok.2.2.2.2.2.1
  refine j_run (mc' := 1) (ms' := 6) (d' := 9) (nL' := 4) (y := yL_led) (cc' := cL_led) (rt' := some .int) (mi' := mi) (vx_runSW (hh := hhL) (bytes := cL_led) (maxL := 4) (ret := some .int) (own := RL) (index := 215) (y := yL_led) (ws := .codeWith yL_led cL_led 4 (some .int) hhL :: wtbl) (rm := rmx 9 1 6) (As := [.ref 0, .int x, .ref 601].map (rn ad)) (n := 3) (nL := nL) ⟨ok.1, ok.2.1, ok.2.2.1, ok.2.2.2.1, ok.2.2.2.2.1⟩ (ct l ad hxl) ⟨⟨rfl, rfl, by rw [ok.2.2.2.2.2.2.2.2.2.1]; exact hdd, by rw [ok.2.2.2.2.2.2.2.2.2.2]; show 8 + (4 + 11) + 64 * 9 ≤ 64 * d; omega, pay_in ok.2.2.2.2.1 (fun w hw => by
      rcases List.mem_cons.mp hw with rfl | hw
      · exact wtbl_good _ wdLW
      · exact wtbl_good _ hw), List.mem_cons_self⟩, ok.2.2.2.2.1 _ wdLW, ok.2.2.2.2.1 _ wd105, ⟨by decide +kernel, by decide +kernel⟩, fun sig h => by
      have h2 : (parseMethodDescriptor yL_led.desc).map (fun d => d.parameters.length) = some 3 := by decide +kernel
      rw [h] at h2
      exact (Option.some.inj h2).symm, ok.2.2.2.2.1 _ wd1283, ok.2.2.2.2.1 _ wd1284⟩ ⟨Px_blind, j_pre hkn hR hS hosa⟩ rfl (by simp) hl.1 (by simp [rn]) ?_ hd ⟨by omega, by omega⟩) ok hR hS hE hc2 hs hl hol hosr hmc hms
  exact lv_room (by rw [rn_cats]; exact hst)
end LLED
