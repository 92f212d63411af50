/-! the class: HalfDoors, questions without loops of their own -/
theorem cf_le (x : Nat) : cf x ≤ 1000000 := by unfold cf; split <;> omega
/-- an answer of minutes or steps, -2 where there is none -/
def orN (x : Nat) : Int32 := if x < 1000000 then nI x else -2
theorem nI_nem1 {n : Nat} (h : n < 2 ^ 31) : ¬ nI n = -1 := fun q => absurd (show nI n < 0 by rw [q]; decide) (nI_pos h)
section C11b
variable {G : GG} {post : PT} {mi : MI} {ml : ML} {mr : MR} {dom : List Nat} {T : Nat} {t : TW} {v : Nat → Nat}
theorem cx_busiestN  (hX : XR mr) (hT : TT T) (hTn : mr 0 2 = some T) (hW : WT t) (hR : RX mi T t) (h0 : mi T 0 = 0) (hp : post (some (.int (-1))) (up mi 0 9 1) ml mr dom) : CT G 2 0 0 yX11_busiest cX11_busiest 5 (some .int) [.ref 0] mi ml mr dom post := by
  have w := hW.1
  refine enter 4 (by decide) rfl rfl (fun X => ?_)
  refine j_aload_n dX11_busiest_0 rfl rfl ?_
  refine gR11_20 rfl dX11_busiest_1 hTn ?_
  refine gI11_178 (kT0 hT) dX11_busiest_4 ?_
  refine j_if_ne (tgt := 16) dX11_busiest_7 (by decide) (fun h7 => absurd h7 (fun q => q h0)) (fun _ => ?_)
  refine j_aload_n dX11_busiest_10 rfl rfl ?_
  refine j_iconst (v := 1) dX11_busiest_11 (by decide) ?_
  refine cV11_75 (d1 := 1) rfl dX11_busiest_12 (by decide) (Nat.le_of_ble_eq_true rfl) ?_
  refine c_refuse ?_
  refine j_iret rfl dX11_busiest_15 ?_
  exact hp
theorem cx_tellsN  (hX : XR mr) (hT : TT T) (hTn : mr 0 2 = some T) (hW : WT t) (hR : RX mi T t) (h0 : mi T 0 = 0) (hp : post (some (.int (-1))) (up mi 0 9 1) ml mr dom) : CT G 2 0 0 yX11_tells cX11_tells 3 (some .int) [.ref 0] mi ml mr dom post := by
  have w := hW.1
  refine enter 2 (by decide) rfl rfl (fun X => ?_)
  refine j_aload_n dX11_tells_0 rfl rfl ?_
  refine gR11_20 rfl dX11_tells_1 hTn ?_
  refine gI11_178 (kT0 hT) dX11_tells_4 ?_
  refine j_if_ne (tgt := 16) dX11_tells_7 (by decide) (fun h7 => absurd h7 (fun q => q h0)) (fun _ => ?_)
  refine j_aload_n dX11_tells_10 rfl rfl ?_
  refine j_iconst (v := 1) dX11_tells_11 (by decide) ?_
  refine cV11_75 (d1 := 1) rfl dX11_tells_12 (by decide) (Nat.le_of_ble_eq_true rfl) ?_
  refine c_refuse ?_
  refine j_iret rfl dX11_tells_15 ?_
  exact hp
theorem cx_anotherN {x : Int32} (hX : XR mr) (hT : TT T) (hTn : mr 0 2 = some T) (hW : WT t) (hR : RX mi T t) (h0 : mi T 0 = 0) (hp : post (some (.int (-1))) (up mi 0 9 1) ml mr dom) : CT G 2 0 0 yX11_another cX11_another 2 (some .int) [.ref 0, .int x] mi ml mr dom post := by
  have w := hW.1
  refine enter 0 (by decide) rfl rfl (fun X => ?_)
  refine j_aload_n dX11_another_0 rfl rfl ?_
  refine gR11_20 rfl dX11_another_1 hTn ?_
  refine gI11_178 (kT0 hT) dX11_another_4 ?_
  refine j_if_ne (tgt := 16) dX11_another_7 (by decide) (fun h7 => absurd h7 (fun q => q h0)) (fun _ => ?_)
  refine j_aload_n dX11_another_10 rfl rfl ?_
  refine j_iconst (v := 1) dX11_another_11 (by decide) ?_
  refine cV11_75 (d1 := 1) rfl dX11_another_12 (by decide) (Nat.le_of_ble_eq_true rfl) ?_
  refine c_refuse ?_
  refine j_iret rfl dX11_another_15 ?_
  exact hp
theorem cx_leastSillN  (hX : XR mr) (hT : TT T) (hTn : mr 0 2 = some T) (hW : WT t) (hR : RX mi T t) (h0 : mi T 0 = 0) (hp : post (some (.int (-1))) (up mi 0 9 1) ml mr dom) : CT G 2 0 0 yX11_leastSill cX11_leastSill 2 (some .int) [.ref 0] mi ml mr dom post := by
  have w := hW.1
  refine enter 1 (by decide) rfl rfl (fun X => ?_)
  refine j_aload_n dX11_leastSill_0 rfl rfl ?_
  refine gR11_20 rfl dX11_leastSill_1 hTn ?_
  refine gI11_178 (kT0 hT) dX11_leastSill_4 ?_
  refine j_if_ne (tgt := 16) dX11_leastSill_7 (by decide) (fun h7 => absurd h7 (fun q => q h0)) (fun _ => ?_)
  refine j_aload_n dX11_leastSill_10 rfl rfl ?_
  refine j_iconst (v := 1) dX11_leastSill_11 (by decide) ?_
  refine cV11_75 (d1 := 1) rfl dX11_leastSill_12 (by decide) (Nat.le_of_ble_eq_true rfl) ?_
  refine c_refuse ?_
  refine j_iret rfl dX11_leastSill_15 ?_
  exact hp
theorem cx_carriedN  (hX : XR mr) (hT : TT T) (hTn : mr 0 2 = some T) (hW : WT t) (hR : RX mi T t) (h0 : mi T 0 = 0) (hp : post (some (.int (-1))) (up mi 0 9 1) ml mr dom) : CT G 2 0 0 yX11_carried cX11_carried 2 (some .int) [.ref 0] mi ml mr dom post := by
  have w := hW.1
  refine enter 1 (by decide) rfl rfl (fun X => ?_)
  refine j_aload_n dX11_carried_0 rfl rfl ?_
  refine gR11_20 rfl dX11_carried_1 hTn ?_
  refine gI11_178 (kT0 hT) dX11_carried_4 ?_
  refine j_if_ne (tgt := 16) dX11_carried_7 (by decide) (fun h7 => absurd h7 (fun q => q h0)) (fun _ => ?_)
  refine j_aload_n dX11_carried_10 rfl rfl ?_
  refine j_iconst (v := 1) dX11_carried_11 (by decide) ?_
  refine cV11_75 (d1 := 1) rfl dX11_carried_12 (by decide) (Nat.le_of_ble_eq_true rfl) ?_
  refine c_refuse ?_
  refine j_iret rfl dX11_carried_15 ?_
  exact hp
theorem cx_stuckN  (hX : XR mr) (hT : TT T) (hTn : mr 0 2 = some T) (hW : WT t) (hR : RX mi T t) (h0 : mi T 0 = 0) (hp : post (some (.int (-1))) (up mi 0 9 1) ml mr dom) : CT G 2 0 0 yX11_stuck cX11_stuck 1 (some .int) [.ref 0] mi ml mr dom post := by
  have w := hW.1
  refine enter 0 (by decide) rfl rfl (fun X => ?_)
  refine j_aload_n dX11_stuck_0 rfl rfl ?_
  refine gR11_20 rfl dX11_stuck_1 hTn ?_
  refine gI11_178 (kT0 hT) dX11_stuck_4 ?_
  refine j_if_ne (tgt := 16) dX11_stuck_7 (by decide) (fun h7 => absurd h7 (fun q => q h0)) (fun _ => ?_)
  refine j_aload_n dX11_stuck_10 rfl rfl ?_
  refine j_iconst (v := 1) dX11_stuck_11 (by decide) ?_
  refine cV11_75 (d1 := 1) rfl dX11_stuck_12 (by decide) (Nat.le_of_ble_eq_true rfl) ?_
  refine c_refuse ?_
  refine j_iret rfl dX11_stuck_15 ?_
  exact hp
theorem cx_piecesN  (hX : XR mr) (hT : TT T) (hTn : mr 0 2 = some T) (hW : WT t) (hR : RX mi T t) (h0 : mi T 0 = 0) (hp : post (some (.int (-1))) (up mi 0 9 1) ml mr dom) : CT G 2 0 0 yX11_pieces cX11_pieces 3 (some .int) [.ref 0] mi ml mr dom post := by
  have w := hW.1
  refine enter 2 (by decide) rfl rfl (fun X => ?_)
  refine j_aload_n dX11_pieces_0 rfl rfl ?_
  refine gR11_20 rfl dX11_pieces_1 hTn ?_
  refine gI11_178 (kT0 hT) dX11_pieces_4 ?_
  refine j_if_ne (tgt := 16) dX11_pieces_7 (by decide) (fun h7 => absurd h7 (fun q => q h0)) (fun _ => ?_)
  refine j_aload_n dX11_pieces_10 rfl rfl ?_
  refine j_iconst (v := 1) dX11_pieces_11 (by decide) ?_
  refine cV11_75 (d1 := 1) rfl dX11_pieces_12 (by decide) (Nat.le_of_ble_eq_true rfl) ?_
  refine c_refuse ?_
  refine j_iret rfl dX11_pieces_15 ?_
  exact hp
theorem cx_fitsN  (hX : XR mr) (hT : TT T) (hTn : mr 0 2 = some T) (hW : WT t) (hR : RX mi T t) (h0 : mi T 0 = 0) (hp : post (some (.int (-1))) (up mi 0 9 1) ml mr dom) : CT G 2 0 0 yX11_fits cX11_fits 1 (some .int) [.ref 0] mi ml mr dom post := by
  have w := hW.1
  refine enter 0 (by decide) rfl rfl (fun X => ?_)
  refine j_aload_n dX11_fits_0 rfl rfl ?_
  refine gR11_20 rfl dX11_fits_1 hTn ?_
  refine gI11_178 (kT0 hT) dX11_fits_4 ?_
  refine j_if_ne (tgt := 16) dX11_fits_7 (by decide) (fun h7 => absurd h7 (fun q => q h0)) (fun _ => ?_)
  refine j_aload_n dX11_fits_10 rfl rfl ?_
  refine j_iconst (v := 1) dX11_fits_11 (by decide) ?_
  refine cV11_75 (d1 := 1) rfl dX11_fits_12 (by decide) (Nat.le_of_ble_eq_true rfl) ?_
  refine c_refuse ?_
  refine j_iret rfl dX11_fits_15 ?_
  exact hp
theorem cx_askN  (hX : XR mr) (hT : TT T) (hTn : mr 0 2 = some T) (hW : WT t) (hR : RX mi T t) (h0 : mi T 0 = 0) (hp : post (some (.int (-1))) (up mi 0 9 1) ml mr dom) : CT G 2 0 0 yX11_ask cX11_ask 3 (some .int) [.ref 0] mi ml mr dom post := by
  have w := hW.1
  refine enter 2 (by decide) rfl rfl (fun X => ?_)
  refine j_aload_n dX11_ask_0 rfl rfl ?_
  refine gR11_20 rfl dX11_ask_1 hTn ?_
  refine gI11_178 (kT0 hT) dX11_ask_4 ?_
  refine j_if_ne (tgt := 16) dX11_ask_7 (by decide) (fun h7 => absurd h7 (fun q => q h0)) (fun _ => ?_)
  refine j_aload_n dX11_ask_10 rfl rfl ?_
  refine j_iconst (v := 1) dX11_ask_11 (by decide) ?_
  refine cV11_75 (d1 := 1) rfl dX11_ask_12 (by decide) (Nat.le_of_ble_eq_true rfl) ?_
  refine c_refuse ?_
  refine j_iret rfl dX11_ask_15 ?_
  exact hp
theorem cx_restsN  (hX : XR mr) (hT : TT T) (hTn : mr 0 2 = some T) (hW : WT t) (hR : RX mi T t) (h0 : mi T 0 = 0) (hp : post (some (.int (-1))) (up mi 0 9 1) ml mr dom) : CT G 2 0 0 yX11_rests cX11_rests 4 (some .int) [.ref 0] mi ml mr dom post := by
  have w := hW.1
  refine enter 3 (by decide) rfl rfl (fun X => ?_)
  refine j_aload_n dX11_rests_0 rfl rfl ?_
  refine gR11_20 rfl dX11_rests_1 hTn ?_
  refine gI11_178 (kT0 hT) dX11_rests_4 ?_
  refine j_if_ne (tgt := 16) dX11_rests_7 (by decide) (fun h7 => absurd h7 (fun q => q h0)) (fun _ => ?_)
  refine j_aload_n dX11_rests_10 rfl rfl ?_
  refine j_iconst (v := 1) dX11_rests_11 (by decide) ?_
  refine cV11_75 (d1 := 1) rfl dX11_rests_12 (by decide) (Nat.le_of_ble_eq_true rfl) ?_
  refine c_refuse ?_
  refine j_iret rfl dX11_rests_15 ?_
  exact hp
theorem cx_restN  (hX : XR mr) (hT : TT T) (hTn : mr 0 2 = some T) (hW : WT t) (hR : RX mi T t) (h0 : mi T 0 = 0) (hp : post (some (.int (-1))) (up mi 0 9 1) ml mr dom) : CT G 2 0 0 yX11_rest cX11_rest 3 (some .int) [.ref 0] mi ml mr dom post := by
  have w := hW.1
  refine enter 2 (by decide) rfl rfl (fun X => ?_)
  refine j_aload_n dX11_rest_0 rfl rfl ?_
  refine gR11_20 rfl dX11_rest_1 hTn ?_
  refine gI11_178 (kT0 hT) dX11_rest_4 ?_
  refine j_if_ne (tgt := 16) dX11_rest_7 (by decide) (fun h7 => absurd h7 (fun q => q h0)) (fun _ => ?_)
  refine j_aload_n dX11_rest_10 rfl rfl ?_
  refine j_iconst (v := 1) dX11_rest_11 (by decide) ?_
  refine cV11_75 (d1 := 1) rfl dX11_rest_12 (by decide) (Nat.le_of_ble_eq_true rfl) ?_
  refine c_refuse ?_
  refine j_iret rfl dX11_rest_15 ?_
  exact hp
theorem cx_dayN {x : Int32} (hX : XR mr) (hT : TT T) (hTn : mr 0 2 = some T) (hW : WT t) (hR : RX mi T t) (h0 : mi T 0 = 0) (hp : post (some (.int (-1))) (up mi 0 9 1) ml mr dom) : CT G 2 0 0 yX11_day cX11_day 2 (some .int) [.ref 0, .int x] mi ml mr dom post := by
  have w := hW.1
  refine enter 0 (by decide) rfl rfl (fun X => ?_)
  refine j_aload_n dX11_day_0 rfl rfl ?_
  refine gR11_20 rfl dX11_day_1 hTn ?_
  refine gI11_178 (kT0 hT) dX11_day_4 ?_
  refine j_if_ne (tgt := 16) dX11_day_7 (by decide) (fun h7 => absurd h7 (fun q => q h0)) (fun _ => ?_)
  refine j_aload_n dX11_day_10 rfl rfl ?_
  refine j_iconst (v := 1) dX11_day_11 (by decide) ?_
  refine cV11_75 (d1 := 1) rfl dX11_day_12 (by decide) (Nat.le_of_ble_eq_true rfl) ?_
  refine c_refuse ?_
  refine j_iret rfl dX11_day_15 ?_
  exact hp
theorem cx_pairsB {x y : Int32} (hX : XR mr) (hT : TT T) (hTn : mr 0 2 = some T) (hW : WT t) (hR : RX mi T t) (hb : bad x (t 0 3)) (hp : post (some (.int (-1))) (up mi 0 9 1) ml mr dom) : CT G 2 0 0 yX11_pairs cX11_pairs 5 (some .int) [.ref 0, .int x, .int y] mi ml mr dom post := by
  have w := hW.1
  refine enter 2 (by decide) rfl rfl (fun X => ?_)
  refine j_aload_n dX11_pairs_0 rfl rfl ?_
  refine j_iload_n dX11_pairs_1 rfl rfl ?_
  refine cV11_108 (d1 := 1) rfl dX11_pairs_2 (by decide) (Nat.le_of_ble_eq_true rfl) ?_
  refine c_isHouseB hX hT hTn hW hR hb ?_
  refine j_if_ne (tgt := 14) dX11_pairs_5 (by decide) (fun h5 => absurd (by decide) h5) (fun _ => ?_)
  refine j_aload_n dX11_pairs_8 rfl rfl ?_
  refine j_iconst (v := 1) dX11_pairs_9 (by decide) ?_
  refine cV11_75 (d1 := 1) rfl dX11_pairs_10 (by decide) (Nat.le_of_ble_eq_true rfl) ?_
  refine c_refuse ?_
  refine j_iret rfl dX11_pairs_13 ?_
  exact hp
theorem cx_knownAtB {x : Int32} (hX : XR mr) (hT : TT T) (hTn : mr 0 2 = some T) (hW : WT t) (hR : RX mi T t) (hb : bad x (t 0 5)) (hp : post (some (.int (-1))) (up mi 0 9 1) ml mr dom) : CT G 2 0 0 yX11_knownAt cX11_knownAt 4 (some .int) [.ref 0, .int x] mi ml mr dom post := by
  have w := hW.1
  refine enter 2 (by decide) rfl rfl (fun X => ?_)
  refine j_aload_n dX11_knownAt_0 rfl rfl ?_
  refine j_iload_n dX11_knownAt_1 rfl rfl ?_
  refine cV11_129 (d1 := 1) rfl dX11_knownAt_2 (by decide) (Nat.le_of_ble_eq_true rfl) ?_
  refine c_isPersonB hX hT hTn hW hR hb ?_
  refine j_if_ne (tgt := 14) dX11_knownAt_5 (by decide) (fun h5 => absurd (by decide) h5) (fun _ => ?_)
  refine j_aload_n dX11_knownAt_8 rfl rfl ?_
  refine j_iconst (v := 1) dX11_knownAt_9 (by decide) ?_
  refine cV11_75 (d1 := 1) rfl dX11_knownAt_10 (by decide) (Nat.le_of_ble_eq_true rfl) ?_
  refine c_refuse ?_
  refine j_iret rfl dX11_knownAt_13 ?_
  exact hp
theorem cx_finesB {x : Int32} (hX : XR mr) (hT : TT T) (hTn : mr 0 2 = some T) (hW : WT t) (hR : RX mi T t) (hb : bad x (t 0 5)) (hp : post (some (.int (-1))) (up mi 0 9 1) ml mr dom) : CT G 2 0 0 yX11_fines cX11_fines 4 (some .int) [.ref 0, .int x] mi ml mr dom post := by
  have w := hW.1
  refine enter 2 (by decide) rfl rfl (fun X => ?_)
  refine j_aload_n dX11_fines_0 rfl rfl ?_
  refine j_iload_n dX11_fines_1 rfl rfl ?_
  refine cV11_129 (d1 := 1) rfl dX11_fines_2 (by decide) (Nat.le_of_ble_eq_true rfl) ?_
  refine c_isPersonB hX hT hTn hW hR hb ?_
  refine j_if_ne (tgt := 14) dX11_fines_5 (by decide) (fun h5 => absurd (by decide) h5) (fun _ => ?_)
  refine j_aload_n dX11_fines_8 rfl rfl ?_
  refine j_iconst (v := 1) dX11_fines_9 (by decide) ?_
  refine cV11_75 (d1 := 1) rfl dX11_fines_10 (by decide) (Nat.le_of_ble_eq_true rfl) ?_
  refine c_refuse ?_
  refine j_iret rfl dX11_fines_13 ?_
  exact hp
theorem cx_baresB {x : Int32} (hX : XR mr) (hT : TT T) (hTn : mr 0 2 = some T) (hW : WT t) (hR : RX mi T t) (hb : bad x (t 0 5)) (hp : post (some (.int (-1))) (up mi 0 9 1) ml mr dom) : CT G 2 0 0 yX11_bares cX11_bares 4 (some .int) [.ref 0, .int x] mi ml mr dom post := by
  have w := hW.1
  refine enter 2 (by decide) rfl rfl (fun X => ?_)
  refine j_aload_n dX11_bares_0 rfl rfl ?_
  refine j_iload_n dX11_bares_1 rfl rfl ?_
  refine cV11_129 (d1 := 1) rfl dX11_bares_2 (by decide) (Nat.le_of_ble_eq_true rfl) ?_
  refine c_isPersonB hX hT hTn hW hR hb ?_
  refine j_if_ne (tgt := 14) dX11_bares_5 (by decide) (fun h5 => absurd (by decide) h5) (fun _ => ?_)
  refine j_aload_n dX11_bares_8 rfl rfl ?_
  refine j_iconst (v := 1) dX11_bares_9 (by decide) ?_
  refine cV11_75 (d1 := 1) rfl dX11_bares_10 (by decide) (Nat.le_of_ble_eq_true rfl) ?_
  refine c_refuse ?_
  refine j_iret rfl dX11_bares_13 ?_
  exact hp
theorem cx_metB {x : Int32} (hX : XR mr) (hT : TT T) (hTn : mr 0 2 = some T) (hW : WT t) (hR : RX mi T t) (hb : bad x (t 0 7)) (hp : post (some (.int (-1))) (up mi 0 9 1) ml mr dom) : CT G 2 0 0 yX11_met cX11_met 6 (some .int) [.ref 0, .int x] mi ml mr dom post := by
  have w := hW.1
  refine enter 4 (by decide) rfl rfl (fun X => ?_)
  refine j_aload_n dX11_met_0 rfl rfl ?_
  refine j_iload_n dX11_met_1 rfl rfl ?_
  refine cV11_207 (d1 := 1) rfl dX11_met_2 (by decide) (Nat.le_of_ble_eq_true rfl) ?_
  refine c_isVisitB hX hT hTn hW hR hb ?_
  refine j_if_ne (tgt := 14) dX11_met_5 (by decide) (fun h5 => absurd (by decide) h5) (fun _ => ?_)
  refine j_aload_n dX11_met_8 rfl rfl ?_
  refine j_iconst (v := 1) dX11_met_9 (by decide) ?_
  refine cV11_75 (d1 := 1) rfl dX11_met_10 (by decide) (Nat.le_of_ble_eq_true rfl) ?_
  refine c_refuse ?_
  refine j_iret rfl dX11_met_13 ?_
  exact hp
theorem cx_carrierB {x : Int32} (hX : XR mr) (hT : TT T) (hTn : mr 0 2 = some T) (hW : WT t) (hR : RX mi T t) (hb : bad x (t 0 6)) (hp : post (some (.int (-1))) (up mi 0 9 1) ml mr dom) : CT G 2 0 0 yX11_carrier cX11_carrier 2 (some .int) [.ref 0, .int x] mi ml mr dom post := by
  have w := hW.1
  refine enter 0 (by decide) rfl rfl (fun X => ?_)
  refine j_aload_n dX11_carrier_0 rfl rfl ?_
  refine j_iload_n dX11_carrier_1 rfl rfl ?_
  refine cV11_157 (d1 := 1) rfl dX11_carrier_2 (by decide) (Nat.le_of_ble_eq_true rfl) ?_
  refine c_isGoodB hX hT hTn hW hR hb ?_
  refine j_if_ne (tgt := 14) dX11_carrier_5 (by decide) (fun h5 => absurd (by decide) h5) (fun _ => ?_)
  refine j_aload_n dX11_carrier_8 rfl rfl ?_
  refine j_iconst (v := 1) dX11_carrier_9 (by decide) ?_
  refine cV11_75 (d1 := 1) rfl dX11_carrier_10 (by decide) (Nat.le_of_ble_eq_true rfl) ?_
  refine c_refuse ?_
  refine j_iret rfl dX11_carrier_13 ?_
  exact hp
theorem cx_handsB {x : Int32} (hX : XR mr) (hT : TT T) (hTn : mr 0 2 = some T) (hW : WT t) (hR : RX mi T t) (hb : bad x (t 0 6)) (hp : post (some (.int (-1))) (up mi 0 9 1) ml mr dom) : CT G 2 0 0 yX11_hands cX11_hands 3 (some .int) [.ref 0, .int x] mi ml mr dom post := by
  have w := hW.1
  refine enter 1 (by decide) rfl rfl (fun X => ?_)
  refine j_aload_n dX11_hands_0 rfl rfl ?_
  refine j_iload_n dX11_hands_1 rfl rfl ?_
  refine cV11_157 (d1 := 1) rfl dX11_hands_2 (by decide) (Nat.le_of_ble_eq_true rfl) ?_
  refine c_isGoodB hX hT hTn hW hR hb ?_
  refine j_if_ne (tgt := 14) dX11_hands_5 (by decide) (fun h5 => absurd (by decide) h5) (fun _ => ?_)
  refine j_aload_n dX11_hands_8 rfl rfl ?_
  refine j_iconst (v := 1) dX11_hands_9 (by decide) ?_
  refine cV11_75 (d1 := 1) rfl dX11_hands_10 (by decide) (Nat.le_of_ble_eq_true rfl) ?_
  refine c_refuse ?_
  refine j_iret rfl dX11_hands_13 ?_
  exact hp
theorem cx_roundB {x : Int32} (hX : XR mr) (hT : TT T) (hTn : mr 0 2 = some T) (hW : WT t) (hR : RX mi T t) (hb : bad x (t 0 3)) (hp : post (some (.int (-1))) (up mi 0 9 1) ml mr dom) : CT G 2 0 0 yX11_round cX11_round 2 (some .int) [.ref 0, .int x] mi ml mr dom post := by
  have w := hW.1
  refine enter 0 (by decide) rfl rfl (fun X => ?_)
  refine j_aload_n dX11_round_0 rfl rfl ?_
  refine j_iload_n dX11_round_1 rfl rfl ?_
  refine cV11_108 (d1 := 1) rfl dX11_round_2 (by decide) (Nat.le_of_ble_eq_true rfl) ?_
  refine c_isHouseB hX hT hTn hW hR hb ?_
  refine j_if_ne (tgt := 14) dX11_round_5 (by decide) (fun h5 => absurd (by decide) h5) (fun _ => ?_)
  refine j_aload_n dX11_round_8 rfl rfl ?_
  refine j_iconst (v := 1) dX11_round_9 (by decide) ?_
  refine cV11_75 (d1 := 1) rfl dX11_round_10 (by decide) (Nat.le_of_ble_eq_true rfl) ?_
  refine c_refuse ?_
  refine j_iret rfl dX11_round_13 ?_
  exact hp
theorem cx_couldB {x : Int32} (hX : XR mr) (hT : TT T) (hTn : mr 0 2 = some T) (hW : WT t) (hR : RX mi T t) (hb : bad x (t 0 8)) (hp : post (some (.int (-1))) (up mi 0 9 1) ml mr dom) : CT G 2 0 0 yX11_could cX11_could 2 (some .int) [.ref 0, .int x] mi ml mr dom post := by
  have w := hW.1
  refine enter 0 (by decide) rfl rfl (fun X => ?_)
  refine j_aload_n dX11_could_0 rfl rfl ?_
  refine j_iload_n dX11_could_1 rfl rfl ?_
  refine cV11_281 (d1 := 1) rfl dX11_could_2 (by decide) (Nat.le_of_ble_eq_true rfl) ?_
  refine c_isPrintB hX hT hTn hW hR hb ?_
  refine j_if_ne (tgt := 14) dX11_could_5 (by decide) (fun h5 => absurd (by decide) h5) (fun _ => ?_)
  refine j_aload_n dX11_could_8 rfl rfl ?_
  refine j_iconst (v := 1) dX11_could_9 (by decide) ?_
  refine cV11_75 (d1 := 1) rfl dX11_could_10 (by decide) (Nat.le_of_ble_eq_true rfl) ?_
  refine c_refuse ?_
  refine j_iret rfl dX11_could_13 ?_
  exact hp
theorem cx_surelyB {x : Int32} (hX : XR mr) (hT : TT T) (hTn : mr 0 2 = some T) (hW : WT t) (hR : RX mi T t) (hb : bad x (t 0 8)) (hp : post (some (.int (-1))) (up mi 0 9 1) ml mr dom) : CT G 2 0 0 yX11_surely cX11_surely 2 (some .int) [.ref 0, .int x] mi ml mr dom post := by
  have w := hW.1
  refine enter 0 (by decide) rfl rfl (fun X => ?_)
  refine j_aload_n dX11_surely_0 rfl rfl ?_
  refine j_iload_n dX11_surely_1 rfl rfl ?_
  refine cV11_281 (d1 := 1) rfl dX11_surely_2 (by decide) (Nat.le_of_ble_eq_true rfl) ?_
  refine c_isPrintB hX hT hTn hW hR hb ?_
  refine j_if_ne (tgt := 14) dX11_surely_5 (by decide) (fun h5 => absurd (by decide) h5) (fun _ => ?_)
  refine j_aload_n dX11_surely_8 rfl rfl ?_
  refine j_iconst (v := 1) dX11_surely_9 (by decide) ?_
  refine cV11_75 (d1 := 1) rfl dX11_surely_10 (by decide) (Nat.le_of_ble_eq_true rfl) ?_
  refine c_refuse ?_
  refine j_iret rfl dX11_surely_13 ?_
  exact hp
theorem cx_dayOfB {x y z : Int32} (hX : XR mr) (hT : TT T) (hTn : mr 0 2 = some T) (hW : WT t) (hR : RX mi T t) (hb : bad x (t 0 5)) (hp : post (some (.int (-1))) (up mi 0 9 1) ml mr dom) : CT G 2 0 0 yX11_dayOf cX11_dayOf 4 (some .int) [.ref 0, .int x, .int y, .int z] mi ml mr dom post := by
  have w := hW.1
  refine enter 0 (by decide) rfl rfl (fun X => ?_)
  refine j_aload_n dX11_dayOf_0 rfl rfl ?_
  refine j_iload_n dX11_dayOf_1 rfl rfl ?_
  refine cV11_129 (d1 := 1) rfl dX11_dayOf_2 (by decide) (Nat.le_of_ble_eq_true rfl) ?_
  refine c_isPersonB hX hT hTn hW hR hb ?_
  refine j_if_ne (tgt := 14) dX11_dayOf_5 (by decide) (fun h5 => absurd (by decide) h5) (fun _ => ?_)
  refine j_aload_n dX11_dayOf_8 rfl rfl ?_
  refine j_iconst (v := 1) dX11_dayOf_9 (by decide) ?_
  refine cV11_75 (d1 := 1) rfl dX11_dayOf_10 (by decide) (Nat.le_of_ble_eq_true rfl) ?_
  refine c_refuse ?_
  refine j_iret rfl dX11_dayOf_13 ?_
  exact hp
theorem cx_anotherB {x : Int32} (hX : XR mr) (hT : TT T) (hTn : mr 0 2 = some T) (hW : WT t) (hR : RX mi T t) (h0 : mi T 0 = 1) (hb : x < 10 ∨ 59 < x) (hp : post (some (.int (-1))) (up mi 0 9 2) ml mr dom) : CT G 2 0 0 yX11_another cX11_another 2 (some .int) [.ref 0, .int x] mi ml mr dom post := by
  have w := hW.1
  refine enter 0 (by decide) rfl rfl (fun X => ?_)
  refine j_aload_n dX11_another_0 rfl rfl ?_
  refine gR11_20 rfl dX11_another_1 hTn ?_
  refine gI11_178 (kT0 hT) dX11_another_4 ?_
  refine j_if_ne (tgt := 16) dX11_another_7 (by decide) (fun _ => ?_) (fun h7 => absurd h7 (by rw [h0]; decide))
  refine j_iload_n dX11_another_16 rfl rfl ?_
  refine j_bipush (v := 10) dX11_another_17 (by decide) ?_
  refine j_icmp_lt (tgt := 28) dX11_another_19 (by decide) (fun h19 => ?_) (fun h19 => ?_)
  · refine j_aload_n dX11_another_28 rfl rfl ?_
    refine j_iconst (v := 2) dX11_another_29 (by decide) ?_
    refine cV11_75 (d1 := 1) rfl dX11_another_30 (by decide) (Nat.le_of_ble_eq_true rfl) ?_
    refine c_refuse ?_
    refine j_iret rfl dX11_another_33 ?_
    exact hp
  · refine j_iload_n dX11_another_22 rfl rfl ?_
    refine j_bipush (v := 59) dX11_another_23 (by decide) ?_
    refine j_icmp_le (tgt := 34) dX11_another_25 (by decide) (fun h25 => ?_) (fun h25 => ?_)
    · exact absurd (hb.resolve_left h19) (Int32.not_lt.mpr h25)
    · refine j_aload_n dX11_another_28 rfl rfl ?_
      refine j_iconst (v := 2) dX11_another_29 (by decide) ?_
      refine cV11_75 (d1 := 1) rfl dX11_another_30 (by decide) (Nat.le_of_ble_eq_true rfl) ?_
      refine c_refuse ?_
      refine j_iret rfl dX11_another_33 ?_
      exact hp
theorem cx_another {s : Nat} (hX : XR mr) (hT : TT T) (hTn : mr 0 2 = some T) (hW : WT t) (hR : RX mi T t) (h0 : mi T 0 = 1) (h1 : 10 ≤ s) (h2 : s ≤ 59) (hp : post (some (.int (nI (sm (fun k => fiA t k s) (t 0 7))))) (up mi 0 9 0) ml mr dom) : CT G 5 0 0 yX11_another cX11_another 2 (some .int) [.ref 0, .int (nI s)] mi ml mr dom post := by
  have w := hW.1
  refine enter 0 (by decide) rfl rfl (fun X => ?_)
  refine j_aload_n dX11_another_0 rfl rfl ?_
  refine gR11_20 rfl dX11_another_1 hTn ?_
  refine gI11_178 (kT0 hT) dX11_another_4 ?_
  refine j_if_ne (tgt := 16) dX11_another_7 (by decide) (fun _ => ?_) (fun h7 => absurd h7 (by rw [h0]; decide))
  refine j_iload_n dX11_another_16 rfl rfl ?_
  refine j_bipush (v := 10) dX11_another_17 (by decide) ?_
  refine j_icmp_lt (tgt := 28) dX11_another_19 (by decide) (fun h19 => absurd h19 (nI_nlt (b := 10) h1 (by omega))) (fun _ => ?_)
  refine j_iload_n dX11_another_22 rfl rfl ?_
  refine j_bipush (v := 59) dX11_another_23 (by decide) ?_
  refine j_icmp_le (tgt := 34) dX11_another_25 (by decide) (fun _ => ?_) (fun h25 => absurd (nI_le (b := 59) h2 (by decide)) h25)
  refine j_aload_n dX11_another_34 rfl rfl ?_
  refine j_aload_n dX11_another_35 rfl rfl ?_
  refine gR11_20 rfl dX11_another_36 hTn ?_
  refine j_iload_n dX11_another_39 rfl rfl ?_
  refine cV11_244 (d1 := 4) (kT0 hT) dX11_another_40 (by decide) (Nat.le_of_ble_eq_true rfl) ?_
  refine c_finesBy hX hT hW hR (by omega) ?_
  refine cV11_105 (d1 := 1) rfl dX11_another_43 (by decide) (Nat.le_of_ble_eq_true rfl) ?_
  refine c_answer ?_
  refine j_iret rfl dX11_another_46 ?_
  exact hp
theorem cx_wayB1 {h g : Int32} (hX : XR mr) (hT : TT T) (hTn : mr 0 2 = some T) (hW : WT t) (hR : RX mi T t) (hb : bad h (t 0 3)) (hp : post (some (.int (-1))) (up mi 0 9 1) ml mr dom) : CT G 2 0 0 yX11_way cX11_way 4 (some .int) [.ref 0, .int h, .int g] mi ml mr dom post := by
  have w := hW.1
  refine enter 1 (by decide) rfl rfl (fun X => ?_)
  refine j_aload_n dX11_way_0 rfl rfl ?_
  refine j_iload_n dX11_way_1 rfl rfl ?_
  refine cV11_108 (d1 := 1) rfl dX11_way_2 (by decide) (Nat.le_of_ble_eq_true rfl) ?_
  refine c_isHouseB hX hT hTn hW hR hb ?_
  refine j_if_eq (tgt := 16) dX11_way_5 (by decide) (fun _ => ?_) (fun h5 => absurd (by decide) h5)
  refine j_aload_n dX11_way_16 rfl rfl ?_
  refine j_iconst (v := 1) dX11_way_17 (by decide) ?_
  refine cV11_75 (d1 := 1) rfl dX11_way_18 (by decide) (Nat.le_of_ble_eq_true rfl) ?_
  refine c_refuse ?_
  refine j_iret rfl dX11_way_21 ?_
  exact hp
theorem cx_wayB2 {h : Nat} {g : Int32} (hX : XR mr) (hT : TT T) (hTn : mr 0 2 = some T) (hW : WT t) (hR : RX mi T t) (h1 : h < t 0 3) (hb : bad g (t 0 3)) (hp : post (some (.int (-1))) (up mi 0 9 1) ml mr dom) : CT G 2 0 0 yX11_way cX11_way 4 (some .int) [.ref 0, .int (nI h), .int g] mi ml mr dom post := by
  have w := hW.1
  refine enter 1 (by decide) rfl rfl (fun X => ?_)
  refine j_aload_n dX11_way_0 rfl rfl ?_
  refine j_iload_n dX11_way_1 rfl rfl ?_
  refine cV11_108 (d1 := 1) rfl dX11_way_2 (by decide) (Nat.le_of_ble_eq_true rfl) ?_
  refine c_isHouseG hX hT hTn hW hR h1 ?_
  refine j_if_eq (tgt := 16) dX11_way_5 (by decide) (fun h5 => absurd h5 (by decide)) (fun _ => ?_)
  refine j_aload_n dX11_way_8 rfl rfl ?_
  refine j_iload_n dX11_way_9 rfl rfl ?_
  refine cV11_108 (d1 := 1) rfl dX11_way_10 (by decide) (Nat.le_of_ble_eq_true rfl) ?_
  refine c_isHouseB hX hT hTn hW hR hb ?_
  refine j_if_ne (tgt := 22) dX11_way_13 (by decide) (fun h13 => absurd (by decide) h13) (fun _ => ?_)
  refine j_aload_n dX11_way_16 rfl rfl ?_
  refine j_iconst (v := 1) dX11_way_17 (by decide) ?_
  refine cV11_75 (d1 := 1) rfl dX11_way_18 (by decide) (Nat.le_of_ble_eq_true rfl) ?_
  refine c_refuse ?_
  refine j_iret rfl dX11_way_21 ?_
  exact hp
theorem cx_way {h g : Nat} (hX : XR mr) (hT : TT T) (hTn : mr 0 2 = some T) (hW : WT t) (hR : RX mi T t) (h1 : h < t 0 3) (h2 : g < t 0 3) (hp : post (some (.int (orN (cf (t 3 (6 * h + g)))))) (up mi 0 9 0) ml mr dom) : CT G 2 0 0 yX11_way cX11_way 4 (some .int) [.ref 0, .int (nI h), .int (nI g)] mi ml mr dom post := by
  have w := hW.1
  have hc := cf_le (t 3 (6 * h + g))
  refine enter 1 (by decide) rfl rfl (fun X => ?_)
  refine j_aload_n dX11_way_0 rfl rfl ?_
  refine j_iload_n dX11_way_1 rfl rfl ?_
  refine cV11_108 (d1 := 1) rfl dX11_way_2 (by decide) (Nat.le_of_ble_eq_true rfl) ?_
  refine c_isHouseG hX hT hTn hW hR h1 ?_
  refine j_if_eq (tgt := 16) dX11_way_5 (by decide) (fun h5 => absurd h5 (by decide)) (fun _ => ?_)
  refine j_aload_n dX11_way_8 rfl rfl ?_
  refine j_iload_n dX11_way_9 rfl rfl ?_
  refine cV11_108 (d1 := 1) rfl dX11_way_10 (by decide) (Nat.le_of_ble_eq_true rfl) ?_
  refine c_isHouseG hX hT hTn hW hR h2 ?_
  refine j_if_ne (tgt := 22) dX11_way_13 (by decide) (fun _ => ?_) (fun h13 => absurd h13 (by decide))
  refine j_aload_n dX11_way_22 rfl rfl ?_
  refine gR11_20 rfl dX11_way_23 hTn ?_
  refine gR11_89 (kT0 hT) dX11_way_26 (xT_lanes hX hT) ?_
  refine j_iload_n dX11_way_29 rfl rfl ?_
  refine j_iload_n dX11_way_30 rfl rfl ?_
  refine cV11_247 (d1 := 1) (kT2 hT) dX11_way_31 (by decide) (Nat.le_of_ble_eq_true rfl) ?_
  refine c_between hX hT (by omega) (by omega) (hR.few (by omega) (show 6 * h + g < 36 by omega)) ?_
  refine j_istore_n (lv2 := [_, _, _, _]) dX11_way_34 rfl (by decide) rfl rfl ?_
  refine j_aload_n dX11_way_35 rfl rfl ?_
  refine j_iload_n dX11_way_36 rfl rfl ?_
  refine j_ldc wd994 dX11_way_37 ?_
  refine j_icmp_ge (tgt := 46) dX11_way_39 (by decide) (fun h39 => ?_) (fun h39 => ?_)
  · refine j_bipush (v := -2) dX11_way_46 (by decide) ?_
    refine cV11_105 (d1 := 1) rfl dX11_way_48 (by decide) (Nat.le_of_ble_eq_true rfl) ?_
    refine c_answer ?_
    refine j_iret rfl dX11_way_51 ?_
    rw [show (1000000 : Int32) = nI 1000000 from rfl, nI_leI (by omega) (by omega)] at h39
    unfold orN at hp
    first
      | (rw [if_neg (by omega)] at hp; exact hp)
      | (rw [if_pos (by omega)] at hp; exact hp)
  · refine j_iload_n dX11_way_42 rfl rfl ?_
    refine j_goto (tgt := 48) dX11_way_43 (by decide) ?_
    refine cV11_105 (d1 := 1) rfl dX11_way_48 (by decide) (Nat.le_of_ble_eq_true rfl) ?_
    refine c_answer ?_
    refine j_iret rfl dX11_way_51 ?_
    rw [show (1000000 : Int32) = nI 1000000 from rfl, nI_leI (by omega) (by omega)] at h39
    unfold orN at hp
    first
      | (rw [if_neg (by omega)] at hp; exact hp)
      | (rw [if_pos (by omega)] at hp; exact hp)
theorem cx_carried  (hX : XR mr) (hT : TT T) (hTn : mr 0 2 = some T) (hW : WT t) (hR : RX mi T t) (h0 : mi T 0 = 1) {W : Nat → Nat} (hG : GP mi t v) (h3 : 0 < t 0 3) (hle : le6 W) (hWm : ∀ i, i < 192 → mi 16 i = nI (W i)) {lo : Nat → Nat} {tr be : Nat → Int32} (htr : ∀ i, i < 5 → mi 14 i = tr i) (hbe : ∀ i, i < 5 → mi 13 i = be i) (hlo : ∀ p, lo p < 32) (hlm : ∀ p, p < 6 → mi 15 p = nI (lo p)) (hp : ∀ m, offC m mi → MS m (tg t v (wAll t (fun i => cf (t 3 i)) v W) (bnd t v (wAll t (fun i => cf (t 3 i)) v W)) (t 0 6) 0 0 (1000000, tr, be, lo)) → post (some (.int (orN (tg t v (wAll t (fun i => cf (t 3 i)) v W) (bnd t v (wAll t (fun i => cf (t 3 i)) v W)) (t 0 6) 0 0 (1000000, tr, be, lo)).1))) (up m 0 9 0) ml mr dom) : CT G 12 0 0 yX11_carried cX11_carried 2 (some .int) [.ref 0] mi ml mr dom post := by
  have w := hW.1
  have hok := tg_ok (t := t) (v := v) (W := wAll t (fun i => cf (t 3 i)) v W) (bd := bnd t v (wAll t (fun i => cf (t 3 i)) v W)) (t 0 6) 0 0 (1000000, tr, be, lo) (by omega) (by omega) ⟨Nat.le_refl _, hlo⟩
  refine enter 1 (by decide) rfl rfl (fun X => ?_)
  refine j_aload_n dX11_carried_0 rfl rfl ?_
  refine gR11_20 rfl dX11_carried_1 hTn ?_
  refine gI11_178 (kT0 hT) dX11_carried_4 ?_
  refine j_if_ne (tgt := 16) dX11_carried_7 (by decide) (fun _ => ?_) (fun h7 => absurd h7 (by rw [h0]; decide))
  refine j_aload_n dX11_carried_16 rfl rfl ?_
  refine gR11_44 rfl dX11_carried_17 (x_carrying hX) ?_
  refine j_aload_n dX11_carried_20 rfl rfl ?_
  refine gR11_20 rfl dX11_carried_21 hTn ?_
  refine j_aload_n dX11_carried_24 rfl rfl ?_
  refine gR11_37 rfl dX11_carried_25 (x_present hX) ?_
  refine cV11_254 (d1 := 11) rfl dX11_carried_28 (by decide) (Nat.le_of_ble_eq_true rfl) ?_
  refine c_soonestOf (fw := (fun i => cf (t 3 i))) hX hT hW hR hG (fun i => cf_le _) (fun i hi => hR.few h3 hi) hle hWm htr hbe hlo hlm (fun m hm hS => ?_)
  generalize (tg t v (wAll t (fun i => cf (t 3 i)) v W) (bnd t v (wAll t (fun i => cf (t 3 i)) v W)) (t 0 6) 0 0 (1000000, tr, be, lo)) = S at hok hS hp ⊢
  refine j_istore_n (lv2 := [_, _]) dX11_carried_31 rfl (by decide) rfl rfl ?_
  refine j_aload_n dX11_carried_32 rfl rfl ?_
  refine j_iload_n dX11_carried_33 rfl rfl ?_
  refine j_ldc wd994 dX11_carried_34 ?_
  refine j_icmp_ge (tgt := 43) dX11_carried_36 (by decide) (fun h36 => ?_) (fun h36 => ?_)
  · refine j_bipush (v := -2) dX11_carried_43 (by decide) ?_
    refine cV11_105 (d1 := 1) rfl dX11_carried_45 (by decide) (Nat.le_of_ble_eq_true rfl) ?_
    refine c_answer ?_
    refine j_iret rfl dX11_carried_48 ?_
    have hp := hp m hm hS
    have h1 := hok.1
    rw [show (1000000 : Int32) = nI 1000000 from rfl, nI_leI (by omega) (by omega)] at h36
    unfold orN at hp
    first
      | (rw [if_neg (by omega)] at hp; exact hp)
      | (rw [if_pos (by omega)] at hp; exact hp)
  · refine j_iload_n dX11_carried_39 rfl rfl ?_
    refine j_goto (tgt := 45) dX11_carried_40 (by decide) ?_
    refine cV11_105 (d1 := 1) rfl dX11_carried_45 (by decide) (Nat.le_of_ble_eq_true rfl) ?_
    refine c_answer ?_
    refine j_iret rfl dX11_carried_48 ?_
    have hp := hp m hm hS
    have h1 := hok.1
    rw [show (1000000 : Int32) = nI 1000000 from rfl, nI_leI (by omega) (by omega)] at h36
    unfold orN at hp
    first
      | (rw [if_neg (by omega)] at hp; exact hp)
      | (rw [if_pos (by omega)] at hp; exact hp)
theorem cx_carrierE {g : Nat} (hX : XR mr) (hT : TT T) (hTn : mr 0 2 = some T) (hW : WT t) (hR : RX mi T t) (h1 : g < t 0 6) {W : Nat → Nat} (hG : GP mi t v) (h3 : 0 < t 0 3) (hle : le6 W) (hWm : ∀ i, i < 192 → mi 16 i = nI (W i)) {lo : Nat → Nat} {tr be : Nat → Int32} (htr : ∀ i, i < 5 → mi 14 i = tr i) (hbe : ∀ i, i < 5 → mi 13 i = be i) (hlo : ∀ p, lo p < 32) (hlm : ∀ p, p < 6 → mi 15 p = nI (lo p)) (hfar : 1000000 ≤ (tg t v (wAll t (fun i => cf (t 3 i)) v W) (bnd t v (wAll t (fun i => cf (t 3 i)) v W)) (t 0 6) 0 0 (1000000, tr, be, lo)).1) (hp : ∀ m, offC m mi → MS m (tg t v (wAll t (fun i => cf (t 3 i)) v W) (bnd t v (wAll t (fun i => cf (t 3 i)) v W)) (t 0 6) 0 0 (1000000, tr, be, lo)) → post (some (.int (-1))) (up m 0 9 6) ml mr dom) : CT G 12 0 0 yX11_carrier cX11_carrier 2 (some .int) [.ref 0, .int (nI g)] mi ml mr dom post := by
  have w := hW.1
  have hok := tg_ok (t := t) (v := v) (W := wAll t (fun i => cf (t 3 i)) v W) (bd := bnd t v (wAll t (fun i => cf (t 3 i)) v W)) (t 0 6) 0 0 (1000000, tr, be, lo) (by omega) (by omega) ⟨Nat.le_refl _, hlo⟩
  refine enter 0 (by decide) rfl rfl (fun X => ?_)
  refine j_aload_n dX11_carrier_0 rfl rfl ?_
  refine j_iload_n dX11_carrier_1 rfl rfl ?_
  refine cV11_157 (d1 := 1) rfl dX11_carrier_2 (by decide) (Nat.le_of_ble_eq_true rfl) ?_
  refine c_isGoodG hX hT hTn hW hR h1 ?_
  refine j_if_ne (tgt := 14) dX11_carrier_5 (by decide) (fun _ => ?_) (fun h5 => absurd h5 (by decide))
  refine j_aload_n dX11_carrier_14 rfl rfl ?_
  refine gR11_44 rfl dX11_carrier_15 (x_carrying hX) ?_
  refine j_aload_n dX11_carrier_18 rfl rfl ?_
  refine gR11_20 rfl dX11_carrier_19 hTn ?_
  refine j_aload_n dX11_carrier_22 rfl rfl ?_
  refine gR11_37 rfl dX11_carrier_23 (x_present hX) ?_
  refine cV11_254 (d1 := 11) rfl dX11_carrier_26 (by decide) (Nat.le_of_ble_eq_true rfl) ?_
  refine c_soonestOf (fw := (fun i => cf (t 3 i))) hX hT hW hR hG (fun i => cf_le _) (fun i hi => hR.few h3 hi) hle hWm htr hbe hlo hlm (fun m hm hS => ?_)
  refine j_ldc wd994 dX11_carrier_29 ?_
  refine j_icmp_lt (tgt := 41) dX11_carrier_31 (by decide) (fun h31 => absurd h31 (nI_nlt (b := 1000000) hfar (by have := hok.1; omega))) (fun _ => ?_)
  refine j_aload_n dX11_carrier_34 rfl rfl ?_
  refine j_bipush (v := 6) dX11_carrier_35 (by decide) ?_
  refine cV11_75 (d1 := 1) rfl dX11_carrier_37 (by decide) (Nat.le_of_ble_eq_true rfl) ?_
  refine c_refuse ?_
  refine j_iret rfl dX11_carrier_40 ?_
  exact hp m hm hS
theorem cx_carrier {g : Nat} (hX : XR mr) (hT : TT T) (hTn : mr 0 2 = some T) (hW : WT t) (hR : RX mi T t) (h1 : g < t 0 6) {W : Nat → Nat} (hG : GP mi t v) (h3 : 0 < t 0 3) (hle : le6 W) (hWm : ∀ i, i < 192 → mi 16 i = nI (W i)) {lo : Nat → Nat} {tr be : Nat → Int32} (htr : ∀ i, i < 5 → mi 14 i = tr i) (hbe : ∀ i, i < 5 → mi 13 i = be i) (hlo : ∀ p, lo p < 32) (hlm : ∀ p, p < 6 → mi 15 p = nI (lo p)) (hfar : (tg t v (wAll t (fun i => cf (t 3 i)) v W) (bnd t v (wAll t (fun i => cf (t 3 i)) v W)) (t 0 6) 0 0 (1000000, tr, be, lo)).1 < 1000000) (hp : ∀ m, offC m mi → MS m (tg t v (wAll t (fun i => cf (t 3 i)) v W) (bnd t v (wAll t (fun i => cf (t 3 i)) v W)) (t 0 6) 0 0 (1000000, tr, be, lo)) → post (some (.int ((tg t v (wAll t (fun i => cf (t 3 i)) v W) (bnd t v (wAll t (fun i => cf (t 3 i)) v W)) (t 0 6) 0 0 (1000000, tr, be, lo)).2.2.1 g))) (up m 0 9 0) ml mr dom) : CT G 12 0 0 yX11_carrier cX11_carrier 2 (some .int) [.ref 0, .int (nI g)] mi ml mr dom post := by
  have w := hW.1
  have hok := tg_ok (t := t) (v := v) (W := wAll t (fun i => cf (t 3 i)) v W) (bd := bnd t v (wAll t (fun i => cf (t 3 i)) v W)) (t 0 6) 0 0 (1000000, tr, be, lo) (by omega) (by omega) ⟨Nat.le_refl _, hlo⟩
  refine enter 0 (by decide) rfl rfl (fun X => ?_)
  refine j_aload_n dX11_carrier_0 rfl rfl ?_
  refine j_iload_n dX11_carrier_1 rfl rfl ?_
  refine cV11_157 (d1 := 1) rfl dX11_carrier_2 (by decide) (Nat.le_of_ble_eq_true rfl) ?_
  refine c_isGoodG hX hT hTn hW hR h1 ?_
  refine j_if_ne (tgt := 14) dX11_carrier_5 (by decide) (fun _ => ?_) (fun h5 => absurd h5 (by decide))
  refine j_aload_n dX11_carrier_14 rfl rfl ?_
  refine gR11_44 rfl dX11_carrier_15 (x_carrying hX) ?_
  refine j_aload_n dX11_carrier_18 rfl rfl ?_
  refine gR11_20 rfl dX11_carrier_19 hTn ?_
  refine j_aload_n dX11_carrier_22 rfl rfl ?_
  refine gR11_37 rfl dX11_carrier_23 (x_present hX) ?_
  refine cV11_254 (d1 := 11) rfl dX11_carrier_26 (by decide) (Nat.le_of_ble_eq_true rfl) ?_
  refine c_soonestOf (fw := (fun i => cf (t 3 i))) hX hT hW hR hG (fun i => cf_le _) (fun i hi => hR.few h3 hi) hle hWm htr hbe hlo hlm (fun m hm hS => ?_)
  refine j_ldc wd994 dX11_carrier_29 ?_
  refine j_icmp_lt (tgt := 41) dX11_carrier_31 (by decide) (fun _ => ?_) (fun h31 => absurd (nI_lt (b := 1000000) hfar (by decide)) h31)
  refine j_aload_n dX11_carrier_41 rfl rfl ?_
  refine j_aload_n dX11_carrier_42 rfl rfl ?_
  refine gR11_44 rfl dX11_carrier_43 (x_carrying hX) ?_
  refine gR11_258 rfl dX11_carrier_46 (x_best hX) ?_
  refine j_iload_n dX11_carrier_49 rfl rfl ?_
  refine j_iald rfl (inT (a := 13) (N := 5) rfl (show g < 5 by omega) (by omega)) dX11_carrier_50 ?_
  rw [nI_clamp (by omega), hS.2.2.1 g (by omega)]
  refine cV11_105 (d1 := 1) rfl dX11_carrier_51 (by decide) (Nat.le_of_ble_eq_true rfl) ?_
  refine c_answer ?_
  refine j_iret rfl dX11_carrier_54 ?_
  exact hp m hm hS
theorem cx_aloneB1 {p : Int32} (hX : XR mr) (hT : TT T) (hTn : mr 0 2 = some T) (hW : WT t) (hR : RX mi T t) (hb : bad p (t 0 5)) (hp : post (some (.int (-1))) (up mi 0 9 1) ml mr dom) : CT G 2 0 0 yX11_alone cX11_alone 2 (some .int) [.ref 0, .int p] mi ml mr dom post := by
  have w := hW.1
  refine enter 0 (by decide) rfl rfl (fun X => ?_)
  refine j_aload_n dX11_alone_0 rfl rfl ?_
  refine j_iload_n dX11_alone_1 rfl rfl ?_
  refine cV11_129 (d1 := 1) rfl dX11_alone_2 (by decide) (Nat.le_of_ble_eq_true rfl) ?_
  refine c_isPersonB hX hT hTn hW hR hb ?_
  refine j_if_eq (tgt := 24) dX11_alone_5 (by decide) (fun _ => ?_) (fun h5 => absurd (by decide) h5)
  refine j_aload_n dX11_alone_24 rfl rfl ?_
  refine j_iconst (v := 1) dX11_alone_25 (by decide) ?_
  refine cV11_75 (d1 := 1) rfl dX11_alone_26 (by decide) (Nat.le_of_ble_eq_true rfl) ?_
  refine c_refuse ?_
  refine j_iret rfl dX11_alone_29 ?_
  exact hp
theorem cx_aloneB2 {p : Nat} (hX : XR mr) (hT : TT T) (hTn : mr 0 2 = some T) (hW : WT t) (hR : RX mi T t) (h1 : p < t 0 5) (hk : ¬ t 4 p = 1) (hp : post (some (.int (-1))) (up mi 0 9 1) ml mr dom) : CT G 2 0 0 yX11_alone cX11_alone 2 (some .int) [.ref 0, .int (nI p)] mi ml mr dom post := by
  have w := hW.1
  refine enter 0 (by decide) rfl rfl (fun X => ?_)
  refine j_aload_n dX11_alone_0 rfl rfl ?_
  refine j_iload_n dX11_alone_1 rfl rfl ?_
  refine cV11_129 (d1 := 1) rfl dX11_alone_2 (by decide) (Nat.le_of_ble_eq_true rfl) ?_
  refine c_isPersonG hX hT hTn hW hR h1 ?_
  refine j_if_eq (tgt := 24) dX11_alone_5 (by decide) (fun h5 => absurd h5 (by decide)) (fun _ => ?_)
  refine j_aload_n dX11_alone_8 rfl rfl ?_
  refine gR11_20 rfl dX11_alone_9 hTn ?_
  refine gR11_132 (kT0 hT) dX11_alone_12 (xT_persons hX hT) ?_
  refine j_iload_n dX11_alone_15 rfl rfl ?_
  refine j_aald (C := RX3) (kT5 hT) (by decide) (fun _ => rfl) (inT (lT5 hT) (show p < 6 by omega) (by omega)) (mr_nI (by omega) (xT_p hX hT (show p < 6 by omega))) dX11_alone_16 (by decide) ?_
  refine gI11_136 (kP hT (show p < 6 by omega)) dX11_alone_17 ?_
  refine j_iconst (v := 1) dX11_alone_20 (by decide) ?_
  refine j_icmp_eq (tgt := 30) dX11_alone_21 (by decide) (fun h21 => absurd (by rw [(hR.pe h1).1] at h21; exact (nI_eq (b := 1) (by have := (hW.pe h1).1; omega) (by decide)).mp h21) hk) (fun _ => ?_)
  refine j_aload_n dX11_alone_24 rfl rfl ?_
  refine j_iconst (v := 1) dX11_alone_25 (by decide) ?_
  refine cV11_75 (d1 := 1) rfl dX11_alone_26 (by decide) (Nat.le_of_ble_eq_true rfl) ?_
  refine c_refuse ?_
  refine j_iret rfl dX11_alone_29 ?_
  exact hp
theorem cx_alone {p : Nat} (hX : XR mr) (hT : TT T) (hTn : mr 0 2 = some T) (hW : WT t) (hR : RX mi T t) (h1 : p < t 0 5) (hk : t 4 p = 1) {W : Nat → Nat} (hG : GP mi t v) (h3 : 0 < t 0 3) (hle : le6 W) (hWm : ∀ i, i < 192 → mi 16 i = nI (W i)) (hp : ∀ m, off1 16 m mi → (∀ i, i < 192 → m 16 i = nI ((wgh t (fun i => cf (t 3 i)) v p W) i)) → post (some (.int (nI ((wgh t (fun i => cf (t 3 i)) v p W) (32 * p + bst (fun g => decide ((wgh t (fun i => cf (t 3 i)) v p W) (32 * p + 2 ^ g) < 1000000)) (t 0 6)))))) (up m 0 9 0) ml mr dom) : CT G 11 0 0 yX11_alone cX11_alone 2 (some .int) [.ref 0, .int (nI p)] mi ml mr dom post := by
  have w := hW.1
  refine enter 0 (by decide) rfl rfl (fun X => ?_)
  refine j_aload_n dX11_alone_0 rfl rfl ?_
  refine j_iload_n dX11_alone_1 rfl rfl ?_
  refine cV11_129 (d1 := 1) rfl dX11_alone_2 (by decide) (Nat.le_of_ble_eq_true rfl) ?_
  refine c_isPersonG hX hT hTn hW hR h1 ?_
  refine j_if_eq (tgt := 24) dX11_alone_5 (by decide) (fun h5 => absurd h5 (by decide)) (fun _ => ?_)
  refine j_aload_n dX11_alone_8 rfl rfl ?_
  refine gR11_20 rfl dX11_alone_9 hTn ?_
  refine gR11_132 (kT0 hT) dX11_alone_12 (xT_persons hX hT) ?_
  refine j_iload_n dX11_alone_15 rfl rfl ?_
  refine j_aald (C := RX3) (kT5 hT) (by decide) (fun _ => rfl) (inT (lT5 hT) (show p < 6 by omega) (by omega)) (mr_nI (by omega) (xT_p hX hT (show p < 6 by omega))) dX11_alone_16 (by decide) ?_
  refine gI11_136 (kP hT (show p < 6 by omega)) dX11_alone_17 ?_
  refine j_iconst (v := 1) dX11_alone_20 (by decide) ?_
  refine j_icmp_eq (tgt := 30) dX11_alone_21 (by decide) (fun _ => ?_) (fun h21 => absurd (by rw [(hR.pe h1).1, hk]; rfl) h21)
  refine j_aload_n dX11_alone_30 rfl rfl ?_
  refine j_aload_n dX11_alone_31 rfl rfl ?_
  refine gR11_44 rfl dX11_alone_32 (x_carrying hX) ?_
  refine j_aload_n dX11_alone_35 rfl rfl ?_
  refine gR11_20 rfl dX11_alone_36 hTn ?_
  refine j_aload_n dX11_alone_39 rfl rfl ?_
  refine gR11_37 rfl dX11_alone_40 (x_present hX) ?_
  refine j_iload_n dX11_alone_43 rfl rfl ?_
  refine cV11_261 (d1 := 10) rfl dX11_alone_44 (by decide) (Nat.le_of_ble_eq_true rfl) ?_
  refine c_minutesAlone (fw := (fun i => cf (t 3 i))) hX hT hW hR hG (fun i => cf_le _) (fun i hi => hR.few h3 hi) h1 hle hWm (fun m hm hs => ?_)
  refine cV11_105 (d1 := 1) rfl dX11_alone_47 (by decide) (Nat.le_of_ble_eq_true rfl) ?_
  refine c_answer ?_
  refine j_iret rfl dX11_alone_50 ?_
  exact hp m hm hs
theorem cx_stuck  (hX : XR mr) (hT : TT T) (hTn : mr 0 2 = some T) (hW : WT t) (hR : RX mi T t) (h0 : mi T 0 = 1) {W : Nat → Nat} (hG : GP mi t v) (h3 : 0 < t 0 3) (hle : le6 W) (hWm : ∀ i, i < 192 → mi 16 i = nI (W i)) (hp : ∀ m, off1 16 m mi → (∀ i, i < 192 → m 16 i = nI ((wAll t (fun i => cf (t 3 i)) v W) i)) → post (some (.int (nI (bst (fun g => mgo t v g && decide (1000000 ≤ qk (wAll t (fun i => cf (t 3 i)) v W) g (t 0 5))) (t 0 6))))) (up m 0 9 0) ml mr dom) : CT G 12 0 0 yX11_stuck cX11_stuck 1 (some .int) [.ref 0] mi ml mr dom post := by
  have w := hW.1
  refine enter 0 (by decide) rfl rfl (fun X => ?_)
  refine j_aload_n dX11_stuck_0 rfl rfl ?_
  refine gR11_20 rfl dX11_stuck_1 hTn ?_
  refine gI11_178 (kT0 hT) dX11_stuck_4 ?_
  refine j_if_ne (tgt := 16) dX11_stuck_7 (by decide) (fun _ => ?_) (fun h7 => absurd h7 (by rw [h0]; decide))
  refine j_aload_n dX11_stuck_16 rfl rfl ?_
  refine j_aload_n dX11_stuck_17 rfl rfl ?_
  refine gR11_44 rfl dX11_stuck_18 (x_carrying hX) ?_
  refine j_aload_n dX11_stuck_21 rfl rfl ?_
  refine gR11_20 rfl dX11_stuck_22 hTn ?_
  refine j_aload_n dX11_stuck_25 rfl rfl ?_
  refine gR11_37 rfl dX11_stuck_26 (x_present hX) ?_
  refine cV11_265 (d1 := 11) rfl dX11_stuck_29 (by decide) (Nat.le_of_ble_eq_true rfl) ?_
  refine c_leftLying (fw := (fun i => cf (t 3 i))) hX hT hW hR hG (fun i => cf_le _) (fun i hi => hR.few h3 hi) hle hWm (fun m hm hs => ?_)
  refine cV11_105 (d1 := 1) rfl dX11_stuck_32 (by decide) (Nat.le_of_ble_eq_true rfl) ?_
  refine c_answer ?_
  refine j_iret rfl dX11_stuck_35 ?_
  exact hp m hm hs
theorem hsR_le {pl b i : Nat} : hsR t pl b i ≤ 1000000 := by
  refine fu_inv (I := le6) (fun k f h => fu_inv (fun h f hf => fu_inv (fun n f hf => hsF_le hf) _ hf) _ h) _ (fun i => ?_) i
  split <;> omega
theorem cx_hands {g : Nat} (hX : XR mr) (hT : TT T) (hTn : mr 0 2 = some T) (hW : WT t) (hR : RX mi T t) (h1 : g < t 0 6) (hG : GP mi t v) (hL : 60 ≤ t 0 2) (hp : ∀ m, off1 (T + 9) m mi → post (some (.int (orN (hsR t (v (6 + g)) (t 8 g) (t 10 g))))) (up m 0 9 0) ml mr dom) : CT G 4 0 0 yX11_hands cX11_hands 3 (some .int) [.ref 0, .int (nI g)] mi ml mr dom post := by
  have w := hW.1
  have hc := hsR_le (t := t) (pl := v (6 + g)) (b := t 8 g) (i := t 10 g)
  refine enter 1 (by decide) rfl rfl (fun X => ?_)
  refine j_aload_n dX11_hands_0 rfl rfl ?_
  refine j_iload_n dX11_hands_1 rfl rfl ?_
  refine cV11_157 (d1 := 1) rfl dX11_hands_2 (by decide) (Nat.le_of_ble_eq_true rfl) ?_
  refine c_isGoodG hX hT hTn hW hR h1 ?_
  refine j_if_ne (tgt := 14) dX11_hands_5 (by decide) (fun _ => ?_) (fun h5 => absurd h5 (by decide))
  refine j_aload_n dX11_hands_14 rfl rfl ?_
  refine gR11_20 rfl dX11_hands_15 hTn ?_
  refine j_aload_n dX11_hands_18 rfl rfl ?_
  refine gR11_37 rfl dX11_hands_19 (x_present hX) ?_
  refine j_iload_n dX11_hands_22 rfl rfl ?_
  refine cV11_172 (d1 := 1) rfl dX11_hands_23 (by decide) (Nat.le_of_ble_eq_true rfl) ?_
  refine c_place hX hW hG h1 ?_
  refine j_iload_n dX11_hands_26 rfl rfl ?_
  refine cV11_268 (d1 := 3) (kT0 hT) dX11_hands_27 (by decide) (Nat.le_of_ble_eq_true rfl) ?_
  refine c_handsFrom hX hT hW hR hL h1 (hG g h1).2 (fun m hm => ?_)
  refine j_istore_n (lv2 := [_, _, _]) dX11_hands_30 rfl (by decide) rfl rfl ?_
  refine j_aload_n dX11_hands_31 rfl rfl ?_
  refine j_iload_n dX11_hands_32 rfl rfl ?_
  refine j_ldc wd994 dX11_hands_33 ?_
  refine j_icmp_ge (tgt := 42) dX11_hands_35 (by decide) (fun h35 => ?_) (fun h35 => ?_)
  · refine j_bipush (v := -2) dX11_hands_42 (by decide) ?_
    refine cV11_105 (d1 := 1) rfl dX11_hands_44 (by decide) (Nat.le_of_ble_eq_true rfl) ?_
    refine c_answer ?_
    refine j_iret rfl dX11_hands_47 ?_
    have hp := hp m hm
    rw [show (1000000 : Int32) = nI 1000000 from rfl, nI_leI (by omega) (by omega)] at h35
    unfold orN at hp
    first
      | (rw [if_neg (by omega)] at hp; exact hp)
      | (rw [if_pos (by omega)] at hp; exact hp)
  · refine j_iload_n dX11_hands_38 rfl rfl ?_
    refine j_goto (tgt := 44) dX11_hands_39 (by decide) ?_
    refine cV11_105 (d1 := 1) rfl dX11_hands_44 (by decide) (Nat.le_of_ble_eq_true rfl) ?_
    refine c_answer ?_
    refine j_iret rfl dX11_hands_47 ?_
    have hp := hp m hm
    rw [show (1000000 : Int32) = nI 1000000 from rfl, nI_leI (by omega) (by omega)] at h35
    unfold orN at hp
    first
      | (rw [if_neg (by omega)] at hp; exact hp)
      | (rw [if_pos (by omega)] at hp; exact hp)
theorem cx_round {h : Nat} (hX : XR mr) (hT : TT T) (hTn : mr 0 2 = some T) (hW : WT t) (hR : RX mi T t) (h1 : h < t 0 3) (hp : post (some (.int (nI (rndC (fun i => cf (t 3 i)) h)))) (up (up mi (T + 2) 3 (nI (rndC (fun i => cf (t 3 i)) h))) 0 9 0) ml mr dom) : CT G 10 0 0 yX11_round cX11_round 2 (some .int) [.ref 0, .int (nI h)] mi ml mr dom post := by
  have w := hW.1
  refine enter 0 (by decide) rfl rfl (fun X => ?_)
  refine j_aload_n dX11_round_0 rfl rfl ?_
  refine j_iload_n dX11_round_1 rfl rfl ?_
  refine cV11_108 (d1 := 1) rfl dX11_round_2 (by decide) (Nat.le_of_ble_eq_true rfl) ?_
  refine c_isHouseG hX hT hTn hW hR h1 ?_
  refine j_if_ne (tgt := 14) dX11_round_5 (by decide) (fun _ => ?_) (fun h5 => absurd h5 (by decide))
  refine j_aload_n dX11_round_14 rfl rfl ?_
  refine j_aload_n dX11_round_15 rfl rfl ?_
  refine gR11_20 rfl dX11_round_16 hTn ?_
  refine gR11_89 (kT0 hT) dX11_round_19 (xT_lanes hX hT) ?_
  refine j_iload_n dX11_round_22 rfl rfl ?_
  refine cV11_271 (d1 := 9) (kT2 hT) dX11_round_23 (by decide) (Nat.le_of_ble_eq_true rfl) ?_
  refine c_shortestRound (fw := (fun i => cf (t 3 i))) hX hT (fun i hi => hR.few (by omega) hi) (fun i => cf_le _) (by omega) ?_
  refine cV11_105 (d1 := 1) rfl dX11_round_26 (by decide) (Nat.le_of_ble_eq_true rfl) ?_
  refine c_answer ?_
  refine j_iret rfl dX11_round_29 ?_
  exact hp
theorem cx_fitsE  (hX : XR mr) (hT : TT T) (hTn : mr 0 2 = some T) (hW : WT t) (hR : RX mi T t) (h0 : mi T 0 = 1) (hk : t 0 8 = 0) (hp : post (some (.int (-1))) (up mi 0 9 6) ml mr dom) : CT G 2 0 0 yX11_fits cX11_fits 1 (some .int) [.ref 0] mi ml mr dom post := by
  have w := hW.1
  refine enter 0 (by decide) rfl rfl (fun X => ?_)
  refine j_aload_n dX11_fits_0 rfl rfl ?_
  refine gR11_20 rfl dX11_fits_1 hTn ?_
  refine gI11_178 (kT0 hT) dX11_fits_4 ?_
  refine j_if_ne (tgt := 16) dX11_fits_7 (by decide) (fun _ => ?_) (fun h7 => absurd h7 (by rw [h0]; decide))
  refine j_aload_n dX11_fits_16 rfl rfl ?_
  refine gR11_20 rfl dX11_fits_17 hTn ?_
  refine gI11_274 (kT0 hT) dX11_fits_20 ?_
  refine j_if_ne (tgt := 33) dX11_fits_23 (by decide) (fun h23 => absurd h23 (fun q => q (by rw [hR.prints, hk]; rfl))) (fun _ => ?_)
  refine j_aload_n dX11_fits_26 rfl rfl ?_
  refine j_bipush (v := 6) dX11_fits_27 (by decide) ?_
  refine cV11_75 (d1 := 1) rfl dX11_fits_29 (by decide) (Nat.le_of_ble_eq_true rfl) ?_
  refine c_refuse ?_
  refine j_iret rfl dX11_fits_32 ?_
  exact hp
theorem cx_fits  (hX : XR mr) (hT : TT T) (hTn : mr 0 2 = some T) (hW : WT t) (hR : RX mi T t) (h0 : mi T 0 = 1) (hk : 0 < t 0 8) (hp : ∀ m, off3 17 18 19 m mi → m 17 2 = nI (t 0 5) → (∀ i, i < 30 → m 18 i = nI (wfK t (t 0 8) i)) → post (some (.int (nI (pro (nrk t) (t 0 8))))) (up m 0 9 0) ml mr dom) : CT G 11 0 0 yX11_fits cX11_fits 1 (some .int) [.ref 0] mi ml mr dom post := by
  have w := hW.1
  refine enter 0 (by decide) rfl rfl (fun X => ?_)
  refine j_aload_n dX11_fits_0 rfl rfl ?_
  refine gR11_20 rfl dX11_fits_1 hTn ?_
  refine gI11_178 (kT0 hT) dX11_fits_4 ?_
  refine j_if_ne (tgt := 16) dX11_fits_7 (by decide) (fun _ => ?_) (fun h7 => absurd h7 (by rw [h0]; decide))
  refine j_aload_n dX11_fits_16 rfl rfl ?_
  refine gR11_20 rfl dX11_fits_17 hTn ?_
  refine gI11_274 (kT0 hT) dX11_fits_20 ?_
  refine j_if_ne (tgt := 33) dX11_fits_23 (by decide) (fun _ => ?_) (fun h23 => absurd h23 (by rw [hR.prints]; exact nI_ne0 hk (by omega)))
  refine j_aload_n dX11_fits_33 rfl rfl ?_
  refine j_aload_n dX11_fits_34 rfl rfl ?_
  refine gR11_51 rfl dX11_fits_35 (x_rows hX) ?_
  refine j_aload_n dX11_fits_38 rfl rfl ?_
  refine gR11_20 rfl dX11_fits_39 hTn ?_
  refine cV11_277 (d1 := 10) rfl dX11_fits_42 (by decide) (Nat.le_of_ble_eq_true rfl) ?_
  refine c_count hX hT hW hR (fun m hm h17 h18 => ?_)
  refine cV11_105 (d1 := 1) rfl dX11_fits_45 (by decide) (Nat.le_of_ble_eq_true rfl) ?_
  refine c_answer ?_
  refine j_iret rfl dX11_fits_48 ?_
  exact hp m hm h17 h18
theorem cx_could {k : Nat} (hX : XR mr) (hT : TT T) (hTn : mr 0 2 = some T) (hW : WT t) (hR : RX mi T t) (h1 : k < t 0 8) (hwb : ∀ i, wfK t (t 0 8) i < 2 ^ 31) (hp : ∀ m, off3 17 18 19 m mi → m 17 2 = nI (t 0 5) → (∀ i, i < 30 → m 18 i = nI (wfK t (t 0 8) i)) → post (some (.int (nI (bst (fun p => decide (0 < wfK t (t 0 8) (6 * k + p))) (t 0 5))))) (up m 0 9 0) ml mr dom) : CT G 11 0 0 yX11_could cX11_could 2 (some .int) [.ref 0, .int (nI k)] mi ml mr dom post := by
  have w := hW.1
  refine enter 0 (by decide) rfl rfl (fun X => ?_)
  refine j_aload_n dX11_could_0 rfl rfl ?_
  refine j_iload_n dX11_could_1 rfl rfl ?_
  refine cV11_281 (d1 := 1) rfl dX11_could_2 (by decide) (Nat.le_of_ble_eq_true rfl) ?_
  refine c_isPrintG hX hT hTn hW hR h1 ?_
  refine j_if_ne (tgt := 14) dX11_could_5 (by decide) (fun _ => ?_) (fun h5 => absurd h5 (by decide))
  refine j_aload_n dX11_could_14 rfl rfl ?_
  refine gR11_51 rfl dX11_could_15 (x_rows hX) ?_
  refine j_aload_n dX11_could_18 rfl rfl ?_
  refine gR11_20 rfl dX11_could_19 hTn ?_
  refine cV11_277 (d1 := 10) rfl dX11_could_22 (by decide) (Nat.le_of_ble_eq_true rfl) ?_
  refine c_count hX hT hW hR (fun m hm h17 h18 => ?_)
  refine j_pop dX11_could_25 rfl ?_
  refine j_aload_n dX11_could_26 rfl rfl ?_
  refine j_aload_n dX11_could_27 rfl rfl ?_
  refine gR11_51 rfl dX11_could_28 (x_rows hX) ?_
  refine j_iload_n dX11_could_31 rfl rfl ?_
  refine cV11_284 (d1 := 1) rfl dX11_could_32 (by decide) (Nat.le_of_ble_eq_true rfl) ?_
  refine c_peopleOf hX h17 (by omega) (by omega) h18 hwb ?_
  refine cV11_105 (d1 := 1) rfl dX11_could_35 (by decide) (Nat.le_of_ble_eq_true rfl) ?_
  refine c_answer ?_
  refine j_iret rfl dX11_could_38 ?_
  exact hp m hm h17 h18
theorem cx_surely {k : Nat} (hX : XR mr) (hT : TT T) (hTn : mr 0 2 = some T) (hW : WT t) (hR : RX mi T t) (h1 : k < t 0 8) (hwb : ∀ i, wfK t (t 0 8) i < 2 ^ 31) (hp : ∀ m, off3 17 18 19 m mi → m 17 2 = nI (t 0 5) → (∀ i, i < 30 → m 18 i = nI (wfK t (t 0 8) i)) → (∀ p, p < t 0 5 → bst (fun p => decide (0 < wfK t (t 0 8) (6 * k + p))) (t 0 5) = 2 ^ p → post (some (.int (nI p))) (up m 0 9 0) ml mr dom) ∧ ((∀ p, p < t 0 5 → ¬ bst (fun p => decide (0 < wfK t (t 0 8) (6 * k + p))) (t 0 5) = 2 ^ p) → post (some (.int (-2))) (up m 0 9 0) ml mr dom)) : CT G 11 0 0 yX11_surely cX11_surely 2 (some .int) [.ref 0, .int (nI k)] mi ml mr dom post := by
  have w := hW.1
  refine enter 0 (by decide) rfl rfl (fun X => ?_)
  refine j_aload_n dX11_surely_0 rfl rfl ?_
  refine j_iload_n dX11_surely_1 rfl rfl ?_
  refine cV11_281 (d1 := 1) rfl dX11_surely_2 (by decide) (Nat.le_of_ble_eq_true rfl) ?_
  refine c_isPrintG hX hT hTn hW hR h1 ?_
  refine j_if_ne (tgt := 14) dX11_surely_5 (by decide) (fun _ => ?_) (fun h5 => absurd h5 (by decide))
  refine j_aload_n dX11_surely_14 rfl rfl ?_
  refine gR11_51 rfl dX11_surely_15 (x_rows hX) ?_
  refine j_aload_n dX11_surely_18 rfl rfl ?_
  refine gR11_20 rfl dX11_surely_19 hTn ?_
  refine cV11_277 (d1 := 10) rfl dX11_surely_22 (by decide) (Nat.le_of_ble_eq_true rfl) ?_
  refine c_count hX hT hW hR (fun m hm h17 h18 => ?_)
  refine j_pop dX11_surely_25 rfl ?_
  refine j_aload_n dX11_surely_26 rfl rfl ?_
  refine j_aload_n dX11_surely_27 rfl rfl ?_
  refine gR11_51 rfl dX11_surely_28 (x_rows hX) ?_
  refine j_iload_n dX11_surely_31 rfl rfl ?_
  refine cV11_287 (d1 := 2) rfl dX11_surely_32 (by decide) (Nat.le_of_ble_eq_true rfl) ?_
  refine c_onlyOneOf hX h17 (by omega) (by omega) h18 hwb (fun p hp1 he => ?_) (fun hne => ?_)
  skip
  · refine cV11_105 (d1 := 1) rfl dX11_surely_35 (by decide) (Nat.le_of_ble_eq_true rfl) ?_
    refine c_answer ?_
    refine j_iret rfl dX11_surely_38 ?_
    exact (hp m hm h17 h18).1 p hp1 he
  · refine cV11_105 (d1 := 1) rfl dX11_surely_35 (by decide) (Nat.le_of_ble_eq_true rfl) ?_
    refine c_answer ?_
    refine j_iret rfl dX11_surely_38 ?_
    exact (hp m hm h17 h18).2 hne
theorem cx_shopN {x y z : Int32} (hX : XR mr) (hT : TT T) (hTn : mr 0 2 = some T) (hW : WT t) (hR : RX mi T t) (h0 : mi T 0 = 0) (hp : post (some (.int (-100))) (up mi 0 9 1) ml mr dom) : CT G 2 0 0 yX11_shop cX11_shop 4 (some .int) [.ref 0, .int x, .int y, .int z] mi ml mr dom post := by
  have w := hW.1
  refine enter 0 (by decide) rfl rfl (fun X => ?_)
  refine j_aload_n dX11_shop_0 rfl rfl ?_
  refine gR11_20 rfl dX11_shop_1 hTn ?_
  refine gI11_178 (kT0 hT) dX11_shop_4 ?_
  refine j_if_ne (tgt := 19) dX11_shop_7 (by decide) (fun h7 => absurd h7 (fun q => q h0)) (fun _ => ?_)
  refine j_aload_n dX11_shop_10 rfl rfl ?_
  refine j_iconst (v := 1) dX11_shop_11 (by decide) ?_
  refine cV11_75 (d1 := 1) rfl dX11_shop_12 (by decide) (Nat.le_of_ble_eq_true rfl) ?_
  refine c_refuse ?_
  refine j_pop dX11_shop_15 rfl ?_
  refine j_bipush (v := -100) dX11_shop_16 (by decide) ?_
  refine j_iret rfl dX11_shop_18 ?_
  exact hp
theorem cx_shopB {x y z : Int32} (hX : XR mr) (hT : TT T) (hTn : mr 0 2 = some T) (hW : WT t) (hR : RX mi T t) (h0 : mi T 0 = 1) (hb : bad x 6 ∨ bad y 6) (hp : post (some (.int (-100))) (up mi 0 9 2) ml mr dom) : CT G 2 0 0 yX11_shop cX11_shop 4 (some .int) [.ref 0, .int x, .int y, .int z] mi ml mr dom post := by
  have w := hW.1
  refine enter 0 (by decide) rfl rfl (fun X => ?_)
  refine j_aload_n dX11_shop_0 rfl rfl ?_
  refine gR11_20 rfl dX11_shop_1 hTn ?_
  refine gI11_178 (kT0 hT) dX11_shop_4 ?_
  refine j_if_ne (tgt := 19) dX11_shop_7 (by decide) (fun _ => ?_) (fun h7 => absurd h7 (by rw [h0]; decide))
  refine j_iload_n dX11_shop_19 rfl rfl ?_
  refine j_if_lt (tgt := 39) dX11_shop_20 (by decide) (fun h20 => ?_) (fun h20 => ?_)
  · refine j_aload_n dX11_shop_39 rfl rfl ?_
    refine j_iconst (v := 2) dX11_shop_40 (by decide) ?_
    refine cV11_75 (d1 := 1) rfl dX11_shop_41 (by decide) (Nat.le_of_ble_eq_true rfl) ?_
    refine c_refuse ?_
    refine j_pop dX11_shop_44 rfl ?_
    refine j_bipush (v := -100) dX11_shop_45 (by decide) ?_
    refine j_iret rfl dX11_shop_47 ?_
    exact hp
  · refine j_iload_n dX11_shop_23 rfl rfl ?_
    refine j_bipush (v := 6) dX11_shop_24 (by decide) ?_
    refine j_icmp_ge (tgt := 39) dX11_shop_26 (by decide) (fun h26 => ?_) (fun h26 => ?_)
    · refine j_aload_n dX11_shop_39 rfl rfl ?_
      refine j_iconst (v := 2) dX11_shop_40 (by decide) ?_
      refine cV11_75 (d1 := 1) rfl dX11_shop_41 (by decide) (Nat.le_of_ble_eq_true rfl) ?_
      refine c_refuse ?_
      refine j_pop dX11_shop_44 rfl ?_
      refine j_bipush (v := -100) dX11_shop_45 (by decide) ?_
      refine j_iret rfl dX11_shop_47 ?_
      exact hp
    · refine j_iload_n dX11_shop_29 rfl rfl ?_
      refine j_if_lt (tgt := 39) dX11_shop_30 (by decide) (fun h30 => ?_) (fun h30 => ?_)
      · refine j_aload_n dX11_shop_39 rfl rfl ?_
        refine j_iconst (v := 2) dX11_shop_40 (by decide) ?_
        refine cV11_75 (d1 := 1) rfl dX11_shop_41 (by decide) (Nat.le_of_ble_eq_true rfl) ?_
        refine c_refuse ?_
        refine j_pop dX11_shop_44 rfl ?_
        refine j_bipush (v := -100) dX11_shop_45 (by decide) ?_
        refine j_iret rfl dX11_shop_47 ?_
        exact hp
      · refine j_iload_n dX11_shop_33 rfl rfl ?_
        refine j_bipush (v := 6) dX11_shop_34 (by decide) ?_
        refine j_icmp_lt (tgt := 48) dX11_shop_36 (by decide) (fun h36 => ?_) (fun h36 => ?_)
        · exact hb.elim (fun q => absurd (q.resolve_left h20) h26) (fun q => absurd (q.resolve_left h30) (Int32.not_le.mpr h36))
        · refine j_aload_n dX11_shop_39 rfl rfl ?_
          refine j_iconst (v := 2) dX11_shop_40 (by decide) ?_
          refine cV11_75 (d1 := 1) rfl dX11_shop_41 (by decide) (Nat.le_of_ble_eq_true rfl) ?_
          refine c_refuse ?_
          refine j_pop dX11_shop_44 rfl ?_
          refine j_bipush (v := -100) dX11_shop_45 (by decide) ?_
          refine j_iret rfl dX11_shop_47 ?_
          exact hp
theorem cx_shop0 {x y : Nat} {z : Int32} (hX : XR mr) (hT : TT T) (hTn : mr 0 2 = some T) (hW : WT t) (hR : RX mi T t) (h0 : mi T 0 = 1) (h1 : x < 6) (h2 : y < 6) (hz : z = 0) (hp : post (some (.int (nI (gain t x y)))) (up mi 0 9 0) ml mr dom) : CT G 3 0 0 yX11_shop cX11_shop 4 (some .int) [.ref 0, .int (nI x), .int (nI y), .int z] mi ml mr dom post := by
  have w := hW.1
  refine enter 0 (by decide) rfl rfl (fun X => ?_)
  refine j_aload_n dX11_shop_0 rfl rfl ?_
  refine gR11_20 rfl dX11_shop_1 hTn ?_
  refine gI11_178 (kT0 hT) dX11_shop_4 ?_
  refine j_if_ne (tgt := 19) dX11_shop_7 (by decide) (fun _ => ?_) (fun h7 => absurd h7 (by rw [h0]; decide))
  refine j_iload_n dX11_shop_19 rfl rfl ?_
  refine j_if_lt (tgt := 39) dX11_shop_20 (by decide) (fun h20 => absurd h20 (nI_pos (by omega))) (fun _ => ?_)
  refine j_iload_n dX11_shop_23 rfl rfl ?_
  refine j_bipush (v := 6) dX11_shop_24 (by decide) ?_
  refine j_icmp_ge (tgt := 39) dX11_shop_26 (by decide) (fun h26 => absurd h26 (nI_ge (b := 6) h1 (by decide))) (fun _ => ?_)
  refine j_iload_n dX11_shop_29 rfl rfl ?_
  refine j_if_lt (tgt := 39) dX11_shop_30 (by decide) (fun h30 => absurd h30 (nI_pos (by omega))) (fun _ => ?_)
  refine j_iload_n dX11_shop_33 rfl rfl ?_
  refine j_bipush (v := 6) dX11_shop_34 (by decide) ?_
  refine j_icmp_lt (tgt := 48) dX11_shop_36 (by decide) (fun _ => ?_) (fun h36 => absurd (nI_lt (b := 6) h2 (by decide)) h36)
  refine j_aload_n dX11_shop_48 rfl rfl ?_
  refine j_iload_n dX11_shop_49 rfl rfl ?_
  refine j_if_eq (tgt := 65) dX11_shop_50 (by decide) (fun _ => ?_) (fun h50 => absurd hz h50)
  refine j_aload_n dX11_shop_65 rfl rfl ?_
  refine gR11_20 rfl dX11_shop_66 hTn ?_
  refine j_iload_n dX11_shop_69 rfl rfl ?_
  refine j_iload_n dX11_shop_70 rfl rfl ?_
  refine cS11_293 (d1 := 2) dX11_shop_71 (by decide) (Nat.le_of_ble_eq_true rfl) ?_
  refine c_gain hX hT hW hR h1 h2 ?_
  refine cV11_105 (d1 := 1) rfl dX11_shop_74 (by decide) (Nat.le_of_ble_eq_true rfl) ?_
  refine c_answer ?_
  refine j_iret rfl dX11_shop_77 ?_
  exact hp
theorem cx_shop1 {x y : Nat} {z : Int32} (hX : XR mr) (hT : TT T) (hTn : mr 0 2 = some T) (hW : WT t) (hR : RX mi T t) (h0 : mi T 0 = 1) (h1 : x < 6) (h2 : y < 6) (hz : ¬ z = 0) (hp : post (some (.int (nI (gain t y x)))) (up mi 0 9 0) ml mr dom) : CT G 3 0 0 yX11_shop cX11_shop 4 (some .int) [.ref 0, .int (nI x), .int (nI y), .int z] mi ml mr dom post := by
  have w := hW.1
  refine enter 0 (by decide) rfl rfl (fun X => ?_)
  refine j_aload_n dX11_shop_0 rfl rfl ?_
  refine gR11_20 rfl dX11_shop_1 hTn ?_
  refine gI11_178 (kT0 hT) dX11_shop_4 ?_
  refine j_if_ne (tgt := 19) dX11_shop_7 (by decide) (fun _ => ?_) (fun h7 => absurd h7 (by rw [h0]; decide))
  refine j_iload_n dX11_shop_19 rfl rfl ?_
  refine j_if_lt (tgt := 39) dX11_shop_20 (by decide) (fun h20 => absurd h20 (nI_pos (by omega))) (fun _ => ?_)
  refine j_iload_n dX11_shop_23 rfl rfl ?_
  refine j_bipush (v := 6) dX11_shop_24 (by decide) ?_
  refine j_icmp_ge (tgt := 39) dX11_shop_26 (by decide) (fun h26 => absurd h26 (nI_ge (b := 6) h1 (by decide))) (fun _ => ?_)
  refine j_iload_n dX11_shop_29 rfl rfl ?_
  refine j_if_lt (tgt := 39) dX11_shop_30 (by decide) (fun h30 => absurd h30 (nI_pos (by omega))) (fun _ => ?_)
  refine j_iload_n dX11_shop_33 rfl rfl ?_
  refine j_bipush (v := 6) dX11_shop_34 (by decide) ?_
  refine j_icmp_lt (tgt := 48) dX11_shop_36 (by decide) (fun _ => ?_) (fun h36 => absurd (nI_lt (b := 6) h2 (by decide)) h36)
  refine j_aload_n dX11_shop_48 rfl rfl ?_
  refine j_iload_n dX11_shop_49 rfl rfl ?_
  refine j_if_eq (tgt := 65) dX11_shop_50 (by decide) (fun h50 => absurd h50 hz) (fun _ => ?_)
  refine j_aload_n dX11_shop_53 rfl rfl ?_
  refine gR11_20 rfl dX11_shop_54 hTn ?_
  refine j_iload_n dX11_shop_57 rfl rfl ?_
  refine j_iload_n dX11_shop_58 rfl rfl ?_
  refine cS11_293 (d1 := 2) dX11_shop_59 (by decide) (Nat.le_of_ble_eq_true rfl) ?_
  refine c_gain hX hT hW hR h2 h1 ?_
  refine j_goto (tgt := 74) dX11_shop_62 (by decide) ?_
  refine cV11_105 (d1 := 1) rfl dX11_shop_74 (by decide) (Nat.le_of_ble_eq_true rfl) ?_
  refine c_answer ?_
  refine j_iret rfl dX11_shop_77 ?_
  exact hp
theorem cx_dayB {x : Int32} (hX : XR mr) (hT : TT T) (hTn : mr 0 2 = some T) (hW : WT t) (hR : RX mi T t) (h0 : mi T 0 = 1) (hb : bad x 65537) (hp : post (some (.int (-1))) (up mi 0 9 2) ml mr dom) : CT G 2 0 0 yX11_day cX11_day 2 (some .int) [.ref 0, .int x] mi ml mr dom post := by
  have w := hW.1
  refine enter 0 (by decide) rfl rfl (fun X => ?_)
  refine j_aload_n dX11_day_0 rfl rfl ?_
  refine gR11_20 rfl dX11_day_1 hTn ?_
  refine gI11_178 (kT0 hT) dX11_day_4 ?_
  refine j_if_ne (tgt := 16) dX11_day_7 (by decide) (fun _ => ?_) (fun h7 => absurd h7 (by rw [h0]; decide))
  refine j_iload_n dX11_day_16 rfl rfl ?_
  refine cS11_304 (d1 := 1) dX11_day_17 (by decide) (Nat.le_of_ble_eq_true rfl) ?_
  refine c_isSeedB hb ?_
  refine j_if_ne (tgt := 29) dX11_day_20 (by decide) (fun h20 => absurd (by decide) h20) (fun _ => ?_)
  refine j_aload_n dX11_day_23 rfl rfl ?_
  refine j_iconst (v := 2) dX11_day_24 (by decide) ?_
  refine cV11_75 (d1 := 1) rfl dX11_day_25 (by decide) (Nat.le_of_ble_eq_true rfl) ?_
  refine c_refuse ?_
  refine j_iret rfl dX11_day_28 ?_
  exact hp
theorem cx_day {s : Nat} (hX : XR mr) (hT : TT T) (hTn : mr 0 2 = some T) (hW : WT t) (hR : RX mi T t) (h0 : mi T 0 = 1) (hL : LT t) (h1 : s < 65537) (hp : post (some (.int (nI (fdr t none s (1 * (t 0 1 - t 0 0)))))) (up mi 0 9 0) ml mr dom) : CT G 4 0 0 yX11_day cX11_day 2 (some .int) [.ref 0, .int (nI s)] mi ml mr dom post := by
  have w := hW.1
  refine enter 0 (by decide) rfl rfl (fun X => ?_)
  refine j_aload_n dX11_day_0 rfl rfl ?_
  refine gR11_20 rfl dX11_day_1 hTn ?_
  refine gI11_178 (kT0 hT) dX11_day_4 ?_
  refine j_if_ne (tgt := 16) dX11_day_7 (by decide) (fun _ => ?_) (fun h7 => absurd h7 (by rw [h0]; decide))
  refine j_iload_n dX11_day_16 rfl rfl ?_
  refine cS11_304 (d1 := 1) dX11_day_17 (by decide) (Nat.le_of_ble_eq_true rfl) ?_
  refine c_isSeedG h1 ?_
  refine j_if_ne (tgt := 29) dX11_day_20 (by decide) (fun _ => ?_) (fun h20 => absurd h20 (by decide))
  refine j_aload_n dX11_day_29 rfl rfl ?_
  refine j_aload_n dX11_day_30 rfl rfl ?_
  refine gR11_20 rfl dX11_day_31 hTn ?_
  refine j_iconst (v := -1) dX11_day_34 (by decide) ?_
  refine j_iload_n dX11_day_35 rfl rfl ?_
  refine j_iconst (v := 1) dX11_day_36 (by decide) ?_
  refine cV11_307 (d1 := 3) (kT0 hT) dX11_day_37 (by decide) (Nat.le_of_ble_eq_true rfl) ?_
  rw [show (1 : Int32) = nI 1 from rfl]
  refine c_finesDrawn (who := none) hX hT hW hL hR (by omega) (by omega) (fun _ q => by cases q) (fun _ q => by cases q) ?_
  refine cV11_105 (d1 := 1) rfl dX11_day_40 (by decide) (Nat.le_of_ble_eq_true rfl) ?_
  refine c_answer ?_
  refine j_iret rfl dX11_day_43 ?_
  exact hp
theorem cx_dayOfB2 {p : Nat} {x n : Int32} (hX : XR mr) (hT : TT T) (hTn : mr 0 2 = some T) (hW : WT t) (hR : RX mi T t) (h1 : p < t 0 5) (hb : bad x 65537) (hp : post (some (.int (-1))) (up mi 0 9 2) ml mr dom) : CT G 2 0 0 yX11_dayOf cX11_dayOf 4 (some .int) [.ref 0, .int (nI p), .int x, .int n] mi ml mr dom post := by
  have w := hW.1
  refine enter 0 (by decide) rfl rfl (fun X => ?_)
  refine j_aload_n dX11_dayOf_0 rfl rfl ?_
  refine j_iload_n dX11_dayOf_1 rfl rfl ?_
  refine cV11_129 (d1 := 1) rfl dX11_dayOf_2 (by decide) (Nat.le_of_ble_eq_true rfl) ?_
  refine c_isPersonG hX hT hTn hW hR h1 ?_
  refine j_if_ne (tgt := 14) dX11_dayOf_5 (by decide) (fun _ => ?_) (fun h5 => absurd h5 (by decide))
  refine j_iload_n dX11_dayOf_14 rfl rfl ?_
  refine cS11_304 (d1 := 1) dX11_dayOf_15 (by decide) (Nat.le_of_ble_eq_true rfl) ?_
  refine c_isSeedB hb ?_
  refine j_if_eq (tgt := 32) dX11_dayOf_18 (by decide) (fun _ => ?_) (fun h18 => absurd (by decide) h18)
  refine j_aload_n dX11_dayOf_32 rfl rfl ?_
  refine j_iconst (v := 2) dX11_dayOf_33 (by decide) ?_
  refine cV11_75 (d1 := 1) rfl dX11_dayOf_34 (by decide) (Nat.le_of_ble_eq_true rfl) ?_
  refine c_refuse ?_
  refine j_iret rfl dX11_dayOf_37 ?_
  exact hp
theorem cx_dayOfB3 {p s : Nat} {n : Int32} (hX : XR mr) (hT : TT T) (hTn : mr 0 2 = some T) (hW : WT t) (hR : RX mi T t) (h1 : p < t 0 5) (h2 : s < 65537) (hb : n < 1 ∨ 20 < n) (hp : post (some (.int (-1))) (up mi 0 9 2) ml mr dom) : CT G 2 0 0 yX11_dayOf cX11_dayOf 4 (some .int) [.ref 0, .int (nI p), .int (nI s), .int n] mi ml mr dom post := by
  have w := hW.1
  refine enter 0 (by decide) rfl rfl (fun X => ?_)
  refine j_aload_n dX11_dayOf_0 rfl rfl ?_
  refine j_iload_n dX11_dayOf_1 rfl rfl ?_
  refine cV11_129 (d1 := 1) rfl dX11_dayOf_2 (by decide) (Nat.le_of_ble_eq_true rfl) ?_
  refine c_isPersonG hX hT hTn hW hR h1 ?_
  refine j_if_ne (tgt := 14) dX11_dayOf_5 (by decide) (fun _ => ?_) (fun h5 => absurd h5 (by decide))
  refine j_iload_n dX11_dayOf_14 rfl rfl ?_
  refine cS11_304 (d1 := 1) dX11_dayOf_15 (by decide) (Nat.le_of_ble_eq_true rfl) ?_
  refine c_isSeedG h2 ?_
  refine j_if_eq (tgt := 32) dX11_dayOf_18 (by decide) (fun h18 => absurd h18 (by decide)) (fun _ => ?_)
  refine j_iload_n dX11_dayOf_21 rfl rfl ?_
  refine j_iconst (v := 1) dX11_dayOf_22 (by decide) ?_
  refine j_icmp_lt (tgt := 32) dX11_dayOf_23 (by decide) (fun h23 => ?_) (fun h23 => ?_)
  · refine j_aload_n dX11_dayOf_32 rfl rfl ?_
    refine j_iconst (v := 2) dX11_dayOf_33 (by decide) ?_
    refine cV11_75 (d1 := 1) rfl dX11_dayOf_34 (by decide) (Nat.le_of_ble_eq_true rfl) ?_
    refine c_refuse ?_
    refine j_iret rfl dX11_dayOf_37 ?_
    exact hp
  · refine j_iload_n dX11_dayOf_26 rfl rfl ?_
    refine j_bipush (v := 20) dX11_dayOf_27 (by decide) ?_
    refine j_icmp_le (tgt := 38) dX11_dayOf_29 (by decide) (fun h29 => ?_) (fun h29 => ?_)
    · exact absurd (hb.resolve_left h23) (Int32.not_lt.mpr h29)
    · refine j_aload_n dX11_dayOf_32 rfl rfl ?_
      refine j_iconst (v := 2) dX11_dayOf_33 (by decide) ?_
      refine cV11_75 (d1 := 1) rfl dX11_dayOf_34 (by decide) (Nat.le_of_ble_eq_true rfl) ?_
      refine c_refuse ?_
      refine j_iret rfl dX11_dayOf_37 ?_
      exact hp
theorem cx_dayOf {p s n : Nat} (hX : XR mr) (hT : TT T) (hTn : mr 0 2 = some T) (hW : WT t) (hR : RX mi T t) (hL : LT t) (h1 : p < t 0 5) (h2 : s < 65537) (h3 : 1 ≤ n) (h4 : n ≤ 20) (hp : post (some (.int (nI (fdr t (some p) s (n * (t 0 1 - t 0 0)))))) (up mi 0 9 0) ml mr dom) : CT G 4 0 0 yX11_dayOf cX11_dayOf 4 (some .int) [.ref 0, .int (nI p), .int (nI s), .int (nI n)] mi ml mr dom post := by
  have w := hW.1
  refine enter 0 (by decide) rfl rfl (fun X => ?_)
  refine j_aload_n dX11_dayOf_0 rfl rfl ?_
  refine j_iload_n dX11_dayOf_1 rfl rfl ?_
  refine cV11_129 (d1 := 1) rfl dX11_dayOf_2 (by decide) (Nat.le_of_ble_eq_true rfl) ?_
  refine c_isPersonG hX hT hTn hW hR h1 ?_
  refine j_if_ne (tgt := 14) dX11_dayOf_5 (by decide) (fun _ => ?_) (fun h5 => absurd h5 (by decide))
  refine j_iload_n dX11_dayOf_14 rfl rfl ?_
  refine cS11_304 (d1 := 1) dX11_dayOf_15 (by decide) (Nat.le_of_ble_eq_true rfl) ?_
  refine c_isSeedG h2 ?_
  refine j_if_eq (tgt := 32) dX11_dayOf_18 (by decide) (fun h18 => absurd h18 (by decide)) (fun _ => ?_)
  refine j_iload_n dX11_dayOf_21 rfl rfl ?_
  refine j_iconst (v := 1) dX11_dayOf_22 (by decide) ?_
  refine j_icmp_lt (tgt := 32) dX11_dayOf_23 (by decide) (fun h23 => absurd h23 (nI_nlt (b := 1) h3 (by omega))) (fun _ => ?_)
  refine j_iload_n dX11_dayOf_26 rfl rfl ?_
  refine j_bipush (v := 20) dX11_dayOf_27 (by decide) ?_
  refine j_icmp_le (tgt := 38) dX11_dayOf_29 (by decide) (fun _ => ?_) (fun h29 => absurd (nI_le (b := 20) h4 (by decide)) h29)
  refine j_aload_n dX11_dayOf_38 rfl rfl ?_
  refine j_aload_n dX11_dayOf_39 rfl rfl ?_
  refine gR11_20 rfl dX11_dayOf_40 hTn ?_
  refine j_iload_n dX11_dayOf_43 rfl rfl ?_
  refine j_iload_n dX11_dayOf_44 rfl rfl ?_
  refine j_iload_n dX11_dayOf_45 rfl rfl ?_
  refine cV11_307 (d1 := 3) (kT0 hT) dX11_dayOf_46 (by decide) (Nat.le_of_ble_eq_true rfl) ?_
  refine c_finesDrawn (who := some p) hX hT hW hL hR (by omega) h4 (fun w0 q => by cases q; exact nI_nem1 (by omega)) (fun w0 q => by cases q; omega) ?_
  refine cV11_105 (d1 := 1) rfl dX11_dayOf_49 (by decide) (Nat.le_of_ble_eq_true rfl) ?_
  refine c_answer ?_
  refine j_iret rfl dX11_dayOf_52 ?_
  exact hp
end C11b
