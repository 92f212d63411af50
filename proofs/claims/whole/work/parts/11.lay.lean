/-! LAYOUT of the class: which names, what they point to -/
theorem ite_i {c A B : Prop} {inst : Decidable c} (h1 : c → A) (h2 : ¬ c → B) : if c then A else B := by
  by_cases h : c
  · rw [if_pos h]; exact h1 h
  · rw [if_neg h]; exact h2 h
/-- the class's two towns -/
def TT (T : Nat) : Prop := T = 100 ∨ T = 200
def fxA : List (Nat × Nat × Nat) := [(0, 0, 1), (0, 4, 2), (0, 5, 8), (0, 6, 12), (0, 7, 17), (0, 8, 20), (2, 9, 4), (2, 10, 5), (2, 11, 6), (2, 12, 7), (8, 2, 9), (8, 3, 10), (8, 5, 11), (12, 0, 13), (12, 1, 14), (12, 2, 15), (12, 3, 16), (17, 0, 18), (17, 1, 19), (20, 0, 21), (20, 1, 22)]
def fxT1 : List (Nat × Nat × Nat) := [(100, 9, 101), (100, 10, 102), (100, 11, 105), (100, 12, 106), (100, 13, 107), (100, 14, 108), (100, 15, 109), (102, 1, 103), (102, 2, 104), (105, 0, 110), (105, 1, 111), (105, 2, 112), (105, 3, 113), (105, 4, 114), (105, 5, 115), (106, 0, 130), (106, 1, 131), (106, 2, 132), (106, 3, 133), (106, 4, 134), (107, 0, 140), (107, 1, 141), (107, 2, 142), (107, 3, 143), (107, 4, 144), (107, 5, 145), (107, 6, 146), (107, 7, 147), (108, 0, 150), (108, 1, 151), (108, 2, 152), (108, 3, 153), (108, 4, 154), (110, 3, 120), (111, 3, 121), (112, 3, 122), (113, 3, 123), (114, 3, 124), (115, 3, 125)]
def fxT2 : List (Nat × Nat × Nat) := [(200, 9, 201), (200, 10, 202), (200, 11, 205), (200, 12, 206), (200, 13, 207), (200, 14, 208), (200, 15, 209), (202, 1, 203), (202, 2, 204), (205, 0, 210), (205, 1, 211), (205, 2, 212), (205, 3, 213), (205, 4, 214), (205, 5, 215), (206, 0, 230), (206, 1, 231), (206, 2, 232), (206, 3, 233), (206, 4, 234), (207, 0, 240), (207, 1, 241), (207, 2, 242), (207, 3, 243), (207, 4, 244), (207, 5, 245), (207, 6, 246), (207, 7, 247), (208, 0, 250), (208, 1, 251), (208, 2, 252), (208, 3, 253), (208, 4, 254), (210, 3, 220), (211, 3, 221), (212, 3, 222), (213, 3, 223), (214, 3, 224), (215, 3, 225)]
/-- the class's fixed pointers -/
def XR (mr : MR) : Prop := (∀ q ∈ fxA, mr q.1 q.2.1 = some q.2.2) ∧ (∀ q ∈ fxT1, mr q.1 q.2.1 = some q.2.2) ∧ ∀ q ∈ fxT2, mr q.1 q.2.1 = some q.2.2
section LAY
variable {mr : MR} {T p : Nat}
theorem x_tape (hX : XR mr) : mr 0 0 = some 1 := hX.1 (0, 0, 1) (by decide)
theorem x_reader (hX : XR mr) : mr 0 4 = some 2 := hX.1 (0, 4, 2) (by decide)
theorem x_present (hX : XR mr) : mr 0 5 = some 8 := hX.1 (0, 5, 8) (by decide)
theorem x_carrying (hX : XR mr) : mr 0 6 = some 12 := hX.1 (0, 6, 12) (by decide)
theorem x_rows (hX : XR mr) : mr 0 7 = some 17 := hX.1 (0, 7, 17) (by decide)
theorem x_shops (hX : XR mr) : mr 0 8 = some 20 := hX.1 (0, 8, 20) (by decide)
theorem x_lineWords (hX : XR mr) : mr 2 9 = some 4 := hX.1 (2, 9, 4) (by decide)
theorem x_names (hX : XR mr) : mr 2 10 = some 5 := hX.1 (2, 10, 5) (by decide)
theorem x_nameSorts (hX : XR mr) : mr 2 11 = some 6 := hX.1 (2, 11, 6) (by decide)
theorem x_nameNumbers (hX : XR mr) : mr 2 12 = some 7 := hX.1 (2, 12, 7) (by decide)
theorem x_cells (hX : XR mr) : mr 8 2 = some 9 := hX.1 (8, 2, 9) (by decide)
theorem x_past (hX : XR mr) : mr 8 3 = some 10 := hX.1 (8, 3, 10) (by decide)
theorem x_drawn (hX : XR mr) : mr 8 5 = some 11 := hX.1 (8, 5, 11) (by decide)
theorem x_best (hX : XR mr) : mr 12 0 = some 13 := hX.1 (12, 0, 13) (by decide)
theorem x_tried (hX : XR mr) : mr 12 1 = some 14 := hX.1 (12, 1, 14) (by decide)
theorem x_loads (hX : XR mr) : mr 12 2 = some 15 := hX.1 (12, 2, 15) (by decide)
theorem x_minutes (hX : XR mr) : mr 12 3 = some 16 := hX.1 (12, 3, 16) (by decide)
theorem x_ways (hX : XR mr) : mr 17 0 = some 18 := hX.1 (17, 0, 18) (by decide)
theorem x_nightRows (hX : XR mr) : mr 17 1 = some 19 := hX.1 (17, 1, 19) (by decide)
theorem x_gains (hX : XR mr) : mr 20 0 = some 21 := hX.1 (20, 0, 21) (by decide)
theorem x_mosts (hX : XR mr) : mr 20 1 = some 22 := hX.1 (20, 1, 22) (by decide)
theorem xT_sills (hX : XR mr) (hT : TT T) : mr T 9 = some (T + 1) := by
  rcases hT with rfl | rfl
  · exact hX.2.1 (100, 9, 101) (by decide)
  · exact hX.2.2 (200, 9, 201) (by decide)
theorem xT_lanes (hX : XR mr) (hT : TT T) : mr T 10 = some (T + 2) := by
  rcases hT with rfl | rfl
  · exact hX.2.1 (100, 10, 102) (by decide)
  · exact hX.2.2 (200, 10, 202) (by decide)
theorem xT_persons (hX : XR mr) (hT : TT T) : mr T 11 = some (T + 5) := by
  rcases hT with rfl | rfl
  · exact hX.2.1 (100, 11, 105) (by decide)
  · exact hX.2.2 (200, 11, 205) (by decide)
theorem xT_wares (hX : XR mr) (hT : TT T) : mr T 12 = some (T + 6) := by
  rcases hT with rfl | rfl
  · exact hX.2.1 (100, 12, 106) (by decide)
  · exact hX.2.2 (200, 12, 206) (by decide)
theorem xT_calls (hX : XR mr) (hT : TT T) : mr T 13 = some (T + 7) := by
  rcases hT with rfl | rfl
  · exact hX.2.1 (100, 13, 107) (by decide)
  · exact hX.2.2 (200, 13, 207) (by decide)
theorem xT_tracks (hX : XR mr) (hT : TT T) : mr T 14 = some (T + 8) := by
  rcases hT with rfl | rfl
  · exact hX.2.1 (100, 14, 108) (by decide)
  · exact hX.2.2 (200, 14, 208) (by decide)
theorem xT_steps (hX : XR mr) (hT : TT T) : mr T 15 = some (T + 9) := by
  rcases hT with rfl | rfl
  · exact hX.2.1 (100, 15, 109) (by decide)
  · exact hX.2.2 (200, 15, 209) (by decide)
theorem xT_lminutes (hX : XR mr) (hT : TT T) : mr (T + 2) 1 = some (T + 3) := by
  rcases hT with rfl | rfl
  · exact hX.2.1 (102, 1, 103) (by decide)
  · exact hX.2.2 (202, 1, 203) (by decide)
theorem xT_fewest (hX : XR mr) (hT : TT T) : mr (T + 2) 2 = some (T + 4) := by
  rcases hT with rfl | rfl
  · exact hX.2.1 (102, 2, 104) (by decide)
  · exact hX.2.2 (202, 2, 204) (by decide)
theorem xT_p (hX : XR mr) (hT : TT T) (hp : p < 6) : mr (T + 5) p = some (T + 10 + p) := by
  rcases hT with rfl | rfl
  · match p, hp with
    | 0, _ => exact hX.2.1 (105, 0, 110) (by decide)
    | 1, _ => exact hX.2.1 (105, 1, 111) (by decide)
    | 2, _ => exact hX.2.1 (105, 2, 112) (by decide)
    | 3, _ => exact hX.2.1 (105, 3, 113) (by decide)
    | 4, _ => exact hX.2.1 (105, 4, 114) (by decide)
    | 5, _ => exact hX.2.1 (105, 5, 115) (by decide)
    | q + 6, h => exact absurd h (by omega)
  · match p, hp with
    | 0, _ => exact hX.2.2 (205, 0, 210) (by decide)
    | 1, _ => exact hX.2.2 (205, 1, 211) (by decide)
    | 2, _ => exact hX.2.2 (205, 2, 212) (by decide)
    | 3, _ => exact hX.2.2 (205, 3, 213) (by decide)
    | 4, _ => exact hX.2.2 (205, 4, 214) (by decide)
    | 5, _ => exact hX.2.2 (205, 5, 215) (by decide)
    | q + 6, h => exact absurd h (by omega)
theorem xT_g (hX : XR mr) (hT : TT T) (hp : p < 5) : mr (T + 6) p = some (T + 30 + p) := by
  rcases hT with rfl | rfl
  · match p, hp with
    | 0, _ => exact hX.2.1 (106, 0, 130) (by decide)
    | 1, _ => exact hX.2.1 (106, 1, 131) (by decide)
    | 2, _ => exact hX.2.1 (106, 2, 132) (by decide)
    | 3, _ => exact hX.2.1 (106, 3, 133) (by decide)
    | 4, _ => exact hX.2.1 (106, 4, 134) (by decide)
    | q + 5, h => exact absurd h (by omega)
  · match p, hp with
    | 0, _ => exact hX.2.2 (206, 0, 230) (by decide)
    | 1, _ => exact hX.2.2 (206, 1, 231) (by decide)
    | 2, _ => exact hX.2.2 (206, 2, 232) (by decide)
    | 3, _ => exact hX.2.2 (206, 3, 233) (by decide)
    | 4, _ => exact hX.2.2 (206, 4, 234) (by decide)
    | q + 5, h => exact absurd h (by omega)
theorem xT_v (hX : XR mr) (hT : TT T) (hp : p < 8) : mr (T + 7) p = some (T + 40 + p) := by
  rcases hT with rfl | rfl
  · match p, hp with
    | 0, _ => exact hX.2.1 (107, 0, 140) (by decide)
    | 1, _ => exact hX.2.1 (107, 1, 141) (by decide)
    | 2, _ => exact hX.2.1 (107, 2, 142) (by decide)
    | 3, _ => exact hX.2.1 (107, 3, 143) (by decide)
    | 4, _ => exact hX.2.1 (107, 4, 144) (by decide)
    | 5, _ => exact hX.2.1 (107, 5, 145) (by decide)
    | 6, _ => exact hX.2.1 (107, 6, 146) (by decide)
    | 7, _ => exact hX.2.1 (107, 7, 147) (by decide)
    | q + 8, h => exact absurd h (by omega)
  · match p, hp with
    | 0, _ => exact hX.2.2 (207, 0, 240) (by decide)
    | 1, _ => exact hX.2.2 (207, 1, 241) (by decide)
    | 2, _ => exact hX.2.2 (207, 2, 242) (by decide)
    | 3, _ => exact hX.2.2 (207, 3, 243) (by decide)
    | 4, _ => exact hX.2.2 (207, 4, 244) (by decide)
    | 5, _ => exact hX.2.2 (207, 5, 245) (by decide)
    | 6, _ => exact hX.2.2 (207, 6, 246) (by decide)
    | 7, _ => exact hX.2.2 (207, 7, 247) (by decide)
    | q + 8, h => exact absurd h (by omega)
theorem xT_k (hX : XR mr) (hT : TT T) (hp : p < 5) : mr (T + 8) p = some (T + 50 + p) := by
  rcases hT with rfl | rfl
  · match p, hp with
    | 0, _ => exact hX.2.1 (108, 0, 150) (by decide)
    | 1, _ => exact hX.2.1 (108, 1, 151) (by decide)
    | 2, _ => exact hX.2.1 (108, 2, 152) (by decide)
    | 3, _ => exact hX.2.1 (108, 3, 153) (by decide)
    | 4, _ => exact hX.2.1 (108, 4, 154) (by decide)
    | q + 5, h => exact absurd h (by omega)
  · match p, hp with
    | 0, _ => exact hX.2.2 (208, 0, 250) (by decide)
    | 1, _ => exact hX.2.2 (208, 1, 251) (by decide)
    | 2, _ => exact hX.2.2 (208, 2, 252) (by decide)
    | 3, _ => exact hX.2.2 (208, 3, 253) (by decide)
    | 4, _ => exact hX.2.2 (208, 4, 254) (by decide)
    | q + 5, h => exact absurd h (by omega)
theorem xT_m (hX : XR mr) (hT : TT T) (hp : p < 6) : mr (T + 10 + p) 3 = some (T + 10 + p + 10) := by
  rcases hT with rfl | rfl
  · match p, hp with
    | 0, _ => exact hX.2.1 (110, 3, 120) (by decide)
    | 1, _ => exact hX.2.1 (111, 3, 121) (by decide)
    | 2, _ => exact hX.2.1 (112, 3, 122) (by decide)
    | 3, _ => exact hX.2.1 (113, 3, 123) (by decide)
    | 4, _ => exact hX.2.1 (114, 3, 124) (by decide)
    | 5, _ => exact hX.2.1 (115, 3, 125) (by decide)
    | q + 6, h => exact absurd h (by omega)
  · match p, hp with
    | 0, _ => exact hX.2.2 (210, 3, 220) (by decide)
    | 1, _ => exact hX.2.2 (211, 3, 221) (by decide)
    | 2, _ => exact hX.2.2 (212, 3, 222) (by decide)
    | 3, _ => exact hX.2.2 (213, 3, 223) (by decide)
    | 4, _ => exact hX.2.2 (214, 3, 224) (by decide)
    | 5, _ => exact hX.2.2 (215, 3, 225) (by decide)
    | q + 6, h => exact absurd h (by omega)
theorem kT0 (hT : TT T) : kd T = 9 := by rcases hT with rfl | rfl <;> rfl
theorem kT1 (hT : TT T) : kd (T + 1) = 15 := by rcases hT with rfl | rfl <;> rfl
theorem kT2 (hT : TT T) : kd (T + 2) = 2 := by rcases hT with rfl | rfl <;> rfl
theorem kT3 (hT : TT T) : kd (T + 3) = 15 := by rcases hT with rfl | rfl <;> rfl
theorem kT4 (hT : TT T) : kd (T + 4) = 15 := by rcases hT with rfl | rfl <;> rfl
theorem kT5 (hT : TT T) : kd (T + 5) = 18 := by rcases hT with rfl | rfl <;> rfl
theorem kT6 (hT : TT T) : kd (T + 6) = 17 := by rcases hT with rfl | rfl <;> rfl
theorem kT7 (hT : TT T) : kd (T + 7) = 20 := by rcases hT with rfl | rfl <;> rfl
theorem kT8 (hT : TT T) : kd (T + 8) = 19 := by rcases hT with rfl | rfl <;> rfl
theorem kT9 (hT : TT T) : kd (T + 9) = 15 := by rcases hT with rfl | rfl <;> rfl
theorem lT1 (hT : TT T) : ln (T + 1) = 6 := by rcases hT with rfl | rfl <;> rfl
theorem lT3 (hT : TT T) : ln (T + 3) = 36 := by rcases hT with rfl | rfl <;> rfl
theorem lT4 (hT : TT T) : ln (T + 4) = 36 := by rcases hT with rfl | rfl <;> rfl
theorem lT5 (hT : TT T) : ln (T + 5) = 6 := by rcases hT with rfl | rfl <;> rfl
theorem lT6 (hT : TT T) : ln (T + 6) = 5 := by rcases hT with rfl | rfl <;> rfl
theorem lT7 (hT : TT T) : ln (T + 7) = 8 := by rcases hT with rfl | rfl <;> rfl
theorem lT8 (hT : TT T) : ln (T + 8) = 5 := by rcases hT with rfl | rfl <;> rfl
theorem lT9 (hT : TT T) : ln (T + 9) = 6 := by rcases hT with rfl | rfl <;> rfl
theorem kP (hT : TT T) (hp : p < 6) : kd (T + 10 + p) = 3 := by
  rcases hT with rfl | rfl
  · match p, hp with
    | 0, _ => rfl
    | 1, _ => rfl
    | 2, _ => rfl
    | 3, _ => rfl
    | 4, _ => rfl
    | 5, _ => rfl
    | q + 6, h => exact absurd h (by omega)
  · match p, hp with
    | 0, _ => rfl
    | 1, _ => rfl
    | 2, _ => rfl
    | 3, _ => rfl
    | 4, _ => rfl
    | 5, _ => rfl
    | q + 6, h => exact absurd h (by omega)
theorem kM (hT : TT T) (hp : p < 6) : kd (T + 10 + p + 10) = 15 := by
  rcases hT with rfl | rfl
  · match p, hp with
    | 0, _ => rfl
    | 1, _ => rfl
    | 2, _ => rfl
    | 3, _ => rfl
    | 4, _ => rfl
    | 5, _ => rfl
    | q + 6, h => exact absurd h (by omega)
  · match p, hp with
    | 0, _ => rfl
    | 1, _ => rfl
    | 2, _ => rfl
    | 3, _ => rfl
    | 4, _ => rfl
    | 5, _ => rfl
    | q + 6, h => exact absurd h (by omega)
theorem lM (hT : TT T) (hp : p < 6) : ln (T + 10 + p + 10) = 5 := by
  rcases hT with rfl | rfl
  · match p, hp with
    | 0, _ => rfl
    | 1, _ => rfl
    | 2, _ => rfl
    | 3, _ => rfl
    | 4, _ => rfl
    | 5, _ => rfl
    | q + 6, h => exact absurd h (by omega)
  · match p, hp with
    | 0, _ => rfl
    | 1, _ => rfl
    | 2, _ => rfl
    | 3, _ => rfl
    | 4, _ => rfl
    | 5, _ => rfl
    | q + 6, h => exact absurd h (by omega)
theorem kG (hT : TT T) (hp : p < 5) : kd (T + 30 + p) = 1 := by
  rcases hT with rfl | rfl
  · match p, hp with
    | 0, _ => rfl
    | 1, _ => rfl
    | 2, _ => rfl
    | 3, _ => rfl
    | 4, _ => rfl
    | q + 5, h => exact absurd h (by omega)
  · match p, hp with
    | 0, _ => rfl
    | 1, _ => rfl
    | 2, _ => rfl
    | 3, _ => rfl
    | 4, _ => rfl
    | q + 5, h => exact absurd h (by omega)
theorem kV (hT : TT T) (hp : p < 8) : kd (T + 40 + p) = 10 := by
  rcases hT with rfl | rfl
  · match p, hp with
    | 0, _ => rfl
    | 1, _ => rfl
    | 2, _ => rfl
    | 3, _ => rfl
    | 4, _ => rfl
    | 5, _ => rfl
    | 6, _ => rfl
    | 7, _ => rfl
    | q + 8, h => exact absurd h (by omega)
  · match p, hp with
    | 0, _ => rfl
    | 1, _ => rfl
    | 2, _ => rfl
    | 3, _ => rfl
    | 4, _ => rfl
    | 5, _ => rfl
    | 6, _ => rfl
    | 7, _ => rfl
    | q + 8, h => exact absurd h (by omega)
theorem kK (hT : TT T) (hp : p < 5) : kd (T + 50 + p) = 5 := by
  rcases hT with rfl | rfl
  · match p, hp with
    | 0, _ => rfl
    | 1, _ => rfl
    | 2, _ => rfl
    | 3, _ => rfl
    | 4, _ => rfl
    | q + 5, h => exact absurd h (by omega)
  · match p, hp with
    | 0, _ => rfl
    | 1, _ => rfl
    | 2, _ => rfl
    | 3, _ => rfl
    | 4, _ => rfl
    | q + 5, h => exact absurd h (by omega)
theorem inT {n N : Nat} {a : Nat} (hl : ln a = N) (h : n < N) (hN : N < 2 ^ 31) : vp_in (nI n) (ln a) := by rw [hl]; exact vp_in_nI h hN
theorem mr_nI {a n : Nat} {b : Option Nat} (hn : n < 2 ^ 31) (h : mr a n = b) : mr a (nI n).toNatClampNeg = b := by rw [nI_clamp hn]; exact h
end LAY
theorem sw_out3 {x : Int32} (h0 : ¬ x = 0) (h1 : ¬ x = 1) (h2 : ¬ x = 2) : x.toInt < 0 ∨ 2 < x.toInt := by
  have e : ∀ k : Int32, ¬ x = k → x.toInt ≠ k.toInt := fun k h q => h (Int32.toInt_inj.mp q)
  have a0 : x.toInt ≠ 0 := e 0 h0
  have a1 : x.toInt ≠ 1 := e 1 h1
  have a2 : x.toInt ≠ 2 := e 2 h2
  omega
theorem sw_out4 {x : Int32} (h0 : ¬ x = 0) (h1 : ¬ x = 1) (h2 : ¬ x = 2) (h3 : ¬ x = 3) : x.toInt < 0 ∨ 3 < x.toInt := by
  have e : ∀ k : Int32, ¬ x = k → x.toInt ≠ k.toInt := fun k h q => h (Int32.toInt_inj.mp q)
  have a0 : x.toInt ≠ 0 := e 0 h0
  have a1 : x.toInt ≠ 1 := e 1 h1
  have a2 : x.toInt ≠ 2 := e 2 h2
  have a3 : x.toInt ≠ 3 := e 3 h3
  omega
theorem sw_out5 {x : Int32} (h0 : ¬ x = 0) (h1 : ¬ x = 1) (h2 : ¬ x = 2) (h3 : ¬ x = 3) (h4 : ¬ x = 4) : x.toInt < 0 ∨ 4 < x.toInt := by
  have e : ∀ k : Int32, ¬ x = k → x.toInt ≠ k.toInt := fun k h q => h (Int32.toInt_inj.mp q)
  have a0 : x.toInt ≠ 0 := e 0 h0
  have a1 : x.toInt ≠ 1 := e 1 h1
  have a2 : x.toInt ≠ 2 := e 2 h2
  have a3 : x.toInt ≠ 3 := e 3 h3
  have a4 : x.toInt ≠ 4 := e 4 h4
  omega
theorem sw_out9 {x : Int32} (h0 : ¬ x = 0) (h1 : ¬ x = 1) (h2 : ¬ x = 2) (h3 : ¬ x = 3) (h4 : ¬ x = 4) (h5 : ¬ x = 5) (h6 : ¬ x = 6) (h7 : ¬ x = 7) (h8 : ¬ x = 8) : x.toInt < 0 ∨ 8 < x.toInt := by
  have e : ∀ k : Int32, ¬ x = k → x.toInt ≠ k.toInt := fun k h q => h (Int32.toInt_inj.mp q)
  have a0 : x.toInt ≠ 0 := e 0 h0
  have a1 : x.toInt ≠ 1 := e 1 h1
  have a2 : x.toInt ≠ 2 := e 2 h2
  have a3 : x.toInt ≠ 3 := e 3 h3
  have a4 : x.toInt ≠ 4 := e 4 h4
  have a5 : x.toInt ≠ 5 := e 5 h5
  have a6 : x.toInt ≠ 6 := e 6 h6
  have a7 : x.toInt ≠ 7 := e 7 h7
  have a8 : x.toInt ≠ 8 := e 8 h8
  omega
theorem sw_out12 {x : Int32} (h0 : ¬ x = 0) (h1 : ¬ x = 1) (h2 : ¬ x = 2) (h3 : ¬ x = 3) (h4 : ¬ x = 4) (h5 : ¬ x = 5) (h6 : ¬ x = 6) (h7 : ¬ x = 7) (h8 : ¬ x = 8) (h9 : ¬ x = 9) (h10 : ¬ x = 10) (h11 : ¬ x = 11) : x.toInt < 0 ∨ 11 < x.toInt := by
  have e : ∀ k : Int32, ¬ x = k → x.toInt ≠ k.toInt := fun k h q => h (Int32.toInt_inj.mp q)
  have a0 : x.toInt ≠ 0 := e 0 h0
  have a1 : x.toInt ≠ 1 := e 1 h1
  have a2 : x.toInt ≠ 2 := e 2 h2
  have a3 : x.toInt ≠ 3 := e 3 h3
  have a4 : x.toInt ≠ 4 := e 4 h4
  have a5 : x.toInt ≠ 5 := e 5 h5
  have a6 : x.toInt ≠ 6 := e 6 h6
  have a7 : x.toInt ≠ 7 := e 7 h7
  have a8 : x.toInt ≠ 8 := e 8 h8
  have a9 : x.toInt ≠ 9 := e 9 h9
  have a10 : x.toInt ≠ 10 := e 10 h10
  have a11 : x.toInt ≠ 11 := e 11 h11
  omega
theorem sw_out13 {x : Int32} (h0 : ¬ x = 0) (h1 : ¬ x = 1) (h2 : ¬ x = 2) (h3 : ¬ x = 3) (h4 : ¬ x = 4) (h5 : ¬ x = 5) (h6 : ¬ x = 6) (h7 : ¬ x = 7) (h8 : ¬ x = 8) (h9 : ¬ x = 9) (h10 : ¬ x = 10) (h11 : ¬ x = 11) (h12 : ¬ x = 12) : x.toInt < 0 ∨ 12 < x.toInt := by
  have e : ∀ k : Int32, ¬ x = k → x.toInt ≠ k.toInt := fun k h q => h (Int32.toInt_inj.mp q)
  have a0 : x.toInt ≠ 0 := e 0 h0
  have a1 : x.toInt ≠ 1 := e 1 h1
  have a2 : x.toInt ≠ 2 := e 2 h2
  have a3 : x.toInt ≠ 3 := e 3 h3
  have a4 : x.toInt ≠ 4 := e 4 h4
  have a5 : x.toInt ≠ 5 := e 5 h5
  have a6 : x.toInt ≠ 6 := e 6 h6
  have a7 : x.toInt ≠ 7 := e 7 h7
  have a8 : x.toInt ≠ 8 := e 8 h8
  have a9 : x.toInt ≠ 9 := e 9 h9
  have a10 : x.toInt ≠ 10 := e 10 h10
  have a11 : x.toInt ≠ 11 := e 11 h11
  have a12 : x.toInt ≠ 12 := e 12 h12
  omega
theorem sw_out5_9 {x : Int32} (h0 : ¬ x = 9) (h1 : ¬ x = 10) (h2 : ¬ x = 11) (h3 : ¬ x = 12) (h4 : ¬ x = 13) : x.toInt < 9 ∨ 13 < x.toInt := by
  have e : ∀ k : Int32, ¬ x = k → x.toInt ≠ k.toInt := fun k h q => h (Int32.toInt_inj.mp q)
  have a0 : x.toInt ≠ 9 := e 9 h0
  have a1 : x.toInt ≠ 10 := e 10 h1
  have a2 : x.toInt ≠ 11 := e 11 h2
  have a3 : x.toInt ≠ 12 := e 12 h3
  have a4 : x.toInt ≠ 13 := e 13 h4
  omega
theorem sw_out5_1 {x : Int32} (h0 : ¬ x = 1) (h1 : ¬ x = 2) (h2 : ¬ x = 3) (h3 : ¬ x = 4) (h4 : ¬ x = 5) : x.toInt < 1 ∨ 5 < x.toInt := by
  have e : ∀ k : Int32, ¬ x = k → x.toInt ≠ k.toInt := fun k h q => h (Int32.toInt_inj.mp q)
  have a0 : x.toInt ≠ 1 := e 1 h0
  have a1 : x.toInt ≠ 2 := e 2 h1
  have a2 : x.toInt ≠ 3 := e 3 h2
  have a3 : x.toInt ≠ 4 := e 4 h3
  have a4 : x.toInt ≠ 5 := e 5 h4
  omega
theorem sw_out6_1 {x : Int32} (h0 : ¬ x = 1) (h1 : ¬ x = 2) (h2 : ¬ x = 3) (h3 : ¬ x = 4) (h4 : ¬ x = 5) (h5 : ¬ x = 6) : x.toInt < 1 ∨ 6 < x.toInt := by
  have e : ∀ k : Int32, ¬ x = k → x.toInt ≠ k.toInt := fun k h q => h (Int32.toInt_inj.mp q)
  have a0 : x.toInt ≠ 1 := e 1 h0
  have a1 : x.toInt ≠ 2 := e 2 h1
  have a2 : x.toInt ≠ 3 := e 3 h2
  have a3 : x.toInt ≠ 4 := e 4 h3
  have a4 : x.toInt ≠ 5 := e 5 h4
  have a5 : x.toInt ≠ 6 := e 6 h5
  omega
theorem sw_out4_1 {x : Int32} (h0 : ¬ x = 1) (h1 : ¬ x = 2) (h2 : ¬ x = 3) (h3 : ¬ x = 4) : x.toInt < 1 ∨ 4 < x.toInt := by
  have e : ∀ k : Int32, ¬ x = k → x.toInt ≠ k.toInt := fun k h q => h (Int32.toInt_inj.mp q)
  have a0 : x.toInt ≠ 1 := e 1 h0
  have a1 : x.toInt ≠ 2 := e 2 h1
  have a2 : x.toInt ≠ 3 := e 3 h2
  have a3 : x.toInt ≠ 4 := e 4 h3
  omega
theorem sw_out3_1 {x : Int32} (h0 : ¬ x = 1) (h1 : ¬ x = 2) (h2 : ¬ x = 3) : x.toInt < 1 ∨ 3 < x.toInt := by
  have e : ∀ k : Int32, ¬ x = k → x.toInt ≠ k.toInt := fun k h q => h (Int32.toInt_inj.mp q)
  have a0 : x.toInt ≠ 1 := e 1 h0
  have a1 : x.toInt ≠ 2 := e 2 h1
  have a2 : x.toInt ≠ 3 := e 3 h2
  omega
