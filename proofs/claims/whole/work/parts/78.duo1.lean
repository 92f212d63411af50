/-! the law's calls, two and two -/
def CE (G : GG) (y : MethodName) (cc : ByteArray) (nL : Nat) (rt : Option FieldType) (args : List Value) (mi : MI) (ml : ML) (mr : MR) (dom : List Nat) (post : PT) : Prop := ∃ d, d ≤ 14 ∧ CT G d 0 0 y cc nL rt args mi ml mr dom post
def DM (G : GG) (c : Nat) (x : Int32) (y : MethodName) (cc : ByteArray) (nL : Nat) (rt : Option FieldType) (args : List Value) (mi : MI) (ml : ML) (mr : MR) (dom : List Nat) : Prop := ∀ K : PT, (∀ mi2 ml2 mr2 dom2, LAZ (c + 1) mi2 ml2 mr2 dom2 → K (some (.int x)) mi2 ml2 mr2 dom2) → CE G y cc nL rt args mi ml mr dom K
def DU (G : GG) (c : Nat) (y : MethodName) (cc : ByteArray) (nL : Nat) (rt : Option FieldType) (args : List Value) (y' : MethodName) (cc' : ByteArray) (nL' : Nat) (rt' : Option FieldType) (args' : List Value) (mi : MI) (ml : ML) (mr : MR) (dom : List Nat) : Prop := ∀ K : PT, (∀ x mi1 ml1 mr1 dom1, DM G c x y' cc' nL' rt' args' mi1 ml1 mr1 dom1 → K (some (.int x)) mi1 ml1 mr1 dom1) → CE G y cc nL rt args mi ml mr dom K
section DUO
variable {G : GG} {c : Nat} {mi : MI} {ml : ML} {mr : MR} {dom : List Nat}
theorem du_light {a : Int32} (hc : c < 99999) (hZ : LAZ c mi ml mr dom) : DU G c yX11_light cX11_light 2 (some .int) [.ref 0, .int a] yX13_light cX13_light 2 (some .int) [.ref 1000, .int a] mi ml mr dom := by
  obtain ⟨T, T', t, Z⟩ := hZ
  intro K hK
  rcases zcase Z with ⟨rfl, U⟩ | ⟨M, v, C⟩
  · exact ⟨2, by decide, cx_lightN U.X U.tT U.Tn U.W U.R U.h0 (hK _ _ _ _ _ (fun K2 h2 => ⟨3, by decide, mx_lightN U.TM  (h2 _ _ _ _ ⟨_, _, _, zrf Z (fc9 U.tT _ 1) (up_at _ _ _ _) (by decide) (Z.c9 rfl rfl)⟩)⟩))⟩
  · have w := C.W.1
    rcases bad_or a (24) (by omega) with hb0 | ⟨x, hk0, rfl⟩
    · exact ⟨2, by decide, cx_lightB C.X C.tT C.Tn C.W C.R C.h0 hb0 (hK _ _ _ _ _ (fun K2 h2 => ⟨3, by decide, mx_lightB C.xm C.mm C.xt C.TM C.G C.W (C.rm (fc9 C.tT _ 2)) hb0 (h2 _ _ _ _ ⟨_, _, _, zrf Z (fc9 C.tT _ 2) (up_at _ _ _ _) (by decide) (Z.c9 rfl rfl)⟩)⟩))⟩
    exact ⟨2, by decide, cx_light C.X C.tT C.Tn C.W C.R C.h0 hk0 (hK _ _ _ _ _ (fun K2 h2 => ⟨3, by decide, mx_light C.xm C.mm C.xt C.TM C.G C.W (C.rm (fc9 C.tT _ 0)) hk0 (h2 _ _ _ _ ⟨_, _, _, zrf Z (fc9 C.tT _ 0) (up_at _ _ _ _) (by decide) (Z.c9 rfl rfl)⟩)⟩))⟩
theorem du_house {a b : Int32} (hc : c < 99999) (hZ : LAZ c mi ml mr dom) : DU G c yX11_house cX11_house 3 (some .int) [.ref 0, .int a, .int b] yX13_house cX13_house 5 (some .int) [.ref 1000, .int a, .int b] mi ml mr dom := by
  obtain ⟨T, T', t, Z⟩ := hZ
  intro K hK
  rcases zcase Z with ⟨rfl, U⟩ | ⟨M, v, C⟩
  · exact ⟨2, by decide, cx_houseB1 U.X U.tT U.Tn U.W U.R (bad00 _ _ _) (hK _ _ _ _ _ (fun K2 h2 => ⟨3, by decide, mx_houseN U.TM  (h2 _ _ _ _ ⟨_, _, _, zrf Z (fc9 U.tT _ 1) (up_at _ _ _ _) (by decide) (Z.c9 rfl rfl)⟩)⟩))⟩
  · have w := C.W.1
    rcases bad_or a (t 0 3) (by omega) with hb0 | ⟨h, hk0, rfl⟩
    · exact ⟨2, by decide, cx_houseB1 C.X C.tT C.Tn C.W C.R hb0 (hK _ _ _ _ _ (fun K2 h2 => ⟨3, by decide, mx_houseB1 C.xm C.mm C.xt C.TM C.G C.W (C.rm (fc9 C.tT _ 1)) hb0 (h2 _ _ _ _ ⟨_, _, _, zrf Z (fc9 C.tT _ 1) (up_at _ _ _ _) (by decide) (Z.c9 rfl rfl)⟩)⟩))⟩
    rcases bad_or b (4) (by omega) with hb1 | ⟨k, hk1, rfl⟩
    · exact ⟨2, by decide, cx_houseB2 C.X C.tT C.Tn C.W C.R hk0 hb1 (hK _ _ _ _ _ (fun K2 h2 => ⟨3, by decide, mx_houseB2 C.xm C.mm C.xt C.TM C.G C.W (C.rm (fc9 C.tT _ 1)) hk0 hb1 (h2 _ _ _ _ ⟨_, _, _, zrf Z (fc9 C.tT _ 1) (up_at _ _ _ _) (by decide) (Z.c9 rfl rfl)⟩)⟩))⟩
    have q9 : k = 0 ∨ k = 1 ∨ k = 2 ∨ k = 3 := by omega
    rcases q9 with rfl | rfl | rfl | rfl
    · exact ⟨2, by decide, cx_house0 C.X C.tT C.Tn C.W C.R hk0 (hK _ _ _ _ _ (fun K2 h2 => ⟨3, by decide, mx_house0 C.xm C.mm C.xt C.TM C.G C.W (C.rm (fc9 C.tT _ 0)) hk0 (h2 _ _ _ _ ⟨_, _, _, zrf Z (fc9 C.tT _ 0) (up_at _ _ _ _) (by decide) (Z.c9 rfl rfl)⟩)⟩))⟩
    · exact ⟨2, by decide, cx_house1 C.X C.tT C.Tn C.W C.R hk0 C.L.2.2.1 (hK _ _ _ _ _ (fun K2 h2 => ⟨3, by decide, mx_house1 C.xm C.mm C.xt C.TM C.G C.W (C.rm (fc9 C.tT _ 0)) C.L.2.2.1 hk0 (h2 _ _ _ _ ⟨_, _, _, zrf Z (fc9 C.tT _ 0) (up_at _ _ _ _) (by decide) (Z.c9 rfl rfl)⟩)⟩))⟩
    · exact ⟨3, by decide, cx_house2 C.X C.tT C.Tn C.W C.R hk0 C.hv C.hvb (hK _ _ _ _ _ (fun K2 h2 => ⟨3, by decide, mx_house2 C.xm C.mm C.xt C.TM C.G C.W (C.rm (fc9 C.tT _ 0)) (C.vm hc (fc9 C.tT _ 0)) hk0 (h2 _ _ _ _ ⟨_, _, _, zrf Z (fc9 C.tT _ 0) (up_at _ _ _ _) (by decide) (Z.c9 rfl rfl)⟩)⟩))⟩
    · exact ⟨3, by decide, cx_house3 C.X C.tT C.Tn C.W C.R hk0 C.gp (hK _ _ _ _ _ (fun K2 h2 => ⟨3, by decide, mx_house3 C.xm C.mm C.xt C.TM C.G C.W (C.rm (fc9 C.tT _ 0)) (C.vm hc (fc9 C.tT _ 0)) hk0 (h2 _ _ _ _ ⟨_, _, _, zrf Z (fc9 C.tT _ 0) (up_at _ _ _ _) (by decide) (Z.c9 rfl rfl)⟩)⟩))⟩
theorem du_person {a b : Int32} (hc : c < 99999) (hZ : LAZ c mi ml mr dom) : DU G c yX11_person cX11_person 4 (some .int) [.ref 0, .int a, .int b] yX13_person cX13_person 3 (some .int) [.ref 1000, .int a, .int b] mi ml mr dom := by
  obtain ⟨T, T', t, Z⟩ := hZ
  intro K hK
  rcases zcase Z with ⟨rfl, U⟩ | ⟨M, v, C⟩
  · exact ⟨2, by decide, cx_personB1 U.X U.tT U.Tn U.W U.R (bad00 _ _ _) (hK _ _ _ _ _ (fun K2 h2 => ⟨3, by decide, mx_personN U.TM  (h2 _ _ _ _ ⟨_, _, _, zrf Z (fc9 U.tT _ 1) (up_at _ _ _ _) (by decide) (Z.c9 rfl rfl)⟩)⟩))⟩
  · have w := C.W.1
    rcases bad_or a (t 0 5) (by omega) with hb0 | ⟨p, hk0, rfl⟩
    · exact ⟨2, by decide, cx_personB1 C.X C.tT C.Tn C.W C.R hb0 (hK _ _ _ _ _ (fun K2 h2 => ⟨3, by decide, mx_personB1 C.xm C.mm C.xt C.TM C.G C.W (C.rm (fc9 C.tT _ 1)) hb0 (h2 _ _ _ _ ⟨_, _, _, zrf Z (fc9 C.tT _ 1) (up_at _ _ _ _) (by decide) (Z.c9 rfl rfl)⟩)⟩))⟩
    rcases bad_or b (5) (by omega) with hb1 | ⟨k, hk1, rfl⟩
    · exact ⟨2, by decide, cx_personB2 C.X C.tT C.Tn C.W C.R hk0 hb1 (hK _ _ _ _ _ (fun K2 h2 => ⟨3, by decide, mx_personB2 C.xm C.mm C.xt C.TM C.G C.W (C.rm (fc9 C.tT _ 1)) hk0 hb1 (h2 _ _ _ _ ⟨_, _, _, zrf Z (fc9 C.tT _ 1) (up_at _ _ _ _) (by decide) (Z.c9 rfl rfl)⟩)⟩))⟩
    have q9 : k = 0 ∨ k = 1 ∨ k = 2 ∨ k = 3 ∨ k = 4 := by omega
    rcases q9 with rfl | rfl | rfl | rfl | rfl
    · exact ⟨2, by decide, cx_person0 C.X C.tT C.Tn C.W C.R hk0 (hK _ _ _ _ _ (fun K2 h2 => ⟨3, by decide, mx_person0 C.xm C.mm C.xt C.TM C.G C.W (C.rm (fc9 C.tT _ 0)) hk0 (h2 _ _ _ _ ⟨_, _, _, zrf Z (fc9 C.tT _ 0) (up_at _ _ _ _) (by decide) (Z.c9 rfl rfl)⟩)⟩))⟩
    · exact ⟨2, by decide, cx_person1 C.X C.tT C.Tn C.W C.R hk0 (hK _ _ _ _ _ (fun K2 h2 => ⟨3, by decide, mx_person1 C.xm C.mm C.xt C.TM C.G C.W (C.rm (fc9 C.tT _ 0)) hk0 (h2 _ _ _ _ ⟨_, _, _, zrf Z (fc9 C.tT _ 0) (up_at _ _ _ _) (by decide) (Z.c9 rfl rfl)⟩)⟩))⟩
    · exact ⟨2, by decide, cx_person2 C.X C.tT C.Tn C.W C.R hk0 (hK _ _ _ _ _ (fun K2 h2 => ⟨3, by decide, mx_person2 C.xm C.mm C.xt C.TM C.G C.W (C.rm (fc9 C.tT _ 0)) hk0 (h2 _ _ _ _ ⟨_, _, _, zrf Z (fc9 C.tT _ 0) (up_at _ _ _ _) (by decide) (Z.c9 rfl rfl)⟩)⟩))⟩
    · exact ⟨2, by decide, cx_person3 C.X C.tT C.Tn C.W C.R hk0 (C.hv _ hk0) (hK _ _ _ _ _ (fun K2 h2 => ⟨3, by decide, mx_person3 C.xm C.mm C.xt C.TM C.G C.W (C.rm (fc9 C.tT _ 0)) (C.vm hc (fc9 C.tT _ 0)) hk0 (h2 _ _ _ _ ⟨_, _, _, zrf Z (fc9 C.tT _ 0) (up_at _ _ _ _) (by decide) (Z.c9 rfl rfl)⟩)⟩))⟩
    · exact ⟨2, by decide, cx_person4 C.X C.tT C.Tn C.W C.R hk0 (hK _ _ _ _ _ (fun K2 h2 => ⟨3, by decide, mx_person4 C.xm C.mm C.xt C.TM C.G C.W (C.rm (fc9 C.tT _ 0)) hk0 (h2 _ _ _ _ ⟨_, _, _, zrf Z (fc9 C.tT _ 0) (up_at _ _ _ _) (by decide) (Z.c9 rfl rfl)⟩)⟩))⟩
theorem du_mark {a b : Int32} (hc : c < 99999) (hZ : LAZ c mi ml mr dom) : DU G c yX11_mark cX11_mark 3 (some .int) [.ref 0, .int a, .int b] yX13_mark cX13_mark 3 (some .int) [.ref 1000, .int a, .int b] mi ml mr dom := by
  obtain ⟨T, T', t, Z⟩ := hZ
  intro K hK
  rcases zcase Z with ⟨rfl, U⟩ | ⟨M, v, C⟩
  · exact ⟨2, by decide, cx_markB1 U.X U.tT U.Tn U.W U.R (bad00 _ _ _) (hK _ _ _ _ _ (fun K2 h2 => ⟨3, by decide, mx_markN U.TM  (h2 _ _ _ _ ⟨_, _, _, zrf Z (fc9 U.tT _ 1) (up_at _ _ _ _) (by decide) (Z.c9 rfl rfl)⟩)⟩))⟩
  · have w := C.W.1
    rcases bad_or a (t 0 5) (by omega) with hb0 | ⟨p, hk0, rfl⟩
    · exact ⟨2, by decide, cx_markB1 C.X C.tT C.Tn C.W C.R hb0 (hK _ _ _ _ _ (fun K2 h2 => ⟨3, by decide, mx_markB1 C.xm C.mm C.xt C.TM C.G C.W (C.rm (fc9 C.tT _ 1)) hb0 (h2 _ _ _ _ ⟨_, _, _, zrf Z (fc9 C.tT _ 1) (up_at _ _ _ _) (by decide) (Z.c9 rfl rfl)⟩)⟩))⟩
    rcases bad_or b (5) (by omega) with hb1 | ⟨k, hk1, rfl⟩
    · exact ⟨2, by decide, cx_markB2 C.X C.tT C.Tn C.W C.R hk0 hb1 (hK _ _ _ _ _ (fun K2 h2 => ⟨3, by decide, mx_markB2 C.xm C.mm C.xt C.TM C.G C.W (C.rm (fc9 C.tT _ 1)) hk0 hb1 (h2 _ _ _ _ ⟨_, _, _, zrf Z (fc9 C.tT _ 1) (up_at _ _ _ _) (by decide) (Z.c9 rfl rfl)⟩)⟩))⟩
    exact ⟨2, by decide, cx_mark C.X C.tT C.Tn C.W C.R hk0 hk1 (hK _ _ _ _ _ (fun K2 h2 => ⟨3, by decide, mx_mark C.xm C.mm C.xt C.TM C.G C.W (C.rm (fc9 C.tT _ 0)) hk0 hk1 (h2 _ _ _ _ ⟨_, _, _, zrf Z (fc9 C.tT _ 0) (up_at _ _ _ _) (by decide) (Z.c9 rfl rfl)⟩)⟩))⟩
theorem du_good {a b : Int32} (hc : c < 99999) (hZ : LAZ c mi ml mr dom) : DU G c yX11_good cX11_good 4 (some .int) [.ref 0, .int a, .int b] yX13_good cX13_good 3 (some .int) [.ref 1000, .int a, .int b] mi ml mr dom := by
  obtain ⟨T, T', t, Z⟩ := hZ
  intro K hK
  rcases zcase Z with ⟨rfl, U⟩ | ⟨M, v, C⟩
  · exact ⟨2, by decide, cx_goodB1 U.X U.tT U.Tn U.W U.R (bad00 _ _ _) (hK _ _ _ _ _ (fun K2 h2 => ⟨3, by decide, mx_goodN U.TM  (h2 _ _ _ _ ⟨_, _, _, zrf Z (fc9 U.tT _ 1) (up_at _ _ _ _) (by decide) (Z.c9 rfl rfl)⟩)⟩))⟩
  · have w := C.W.1
    rcases bad_or a (t 0 6) (by omega) with hb0 | ⟨g, hk0, rfl⟩
    · exact ⟨2, by decide, cx_goodB1 C.X C.tT C.Tn C.W C.R hb0 (hK _ _ _ _ _ (fun K2 h2 => ⟨3, by decide, mx_goodB1 C.xm C.mm C.xt C.TM C.G C.W (C.rm (fc9 C.tT _ 1)) hb0 (h2 _ _ _ _ ⟨_, _, _, zrf Z (fc9 C.tT _ 1) (up_at _ _ _ _) (by decide) (Z.c9 rfl rfl)⟩)⟩))⟩
    rcases bad_or b (4) (by omega) with hb1 | ⟨k, hk1, rfl⟩
    · exact ⟨2, by decide, cx_goodB2 C.X C.tT C.Tn C.W C.R hk0 hb1 (hK _ _ _ _ _ (fun K2 h2 => ⟨3, by decide, mx_goodB2 C.xm C.mm C.xt C.TM C.G C.W (C.rm (fc9 C.tT _ 1)) hk0 hb1 (h2 _ _ _ _ ⟨_, _, _, zrf Z (fc9 C.tT _ 1) (up_at _ _ _ _) (by decide) (Z.c9 rfl rfl)⟩)⟩))⟩
    have q9 : k = 0 ∨ k = 1 ∨ k = 2 ∨ k = 3 := by omega
    rcases q9 with rfl | rfl | rfl | rfl
    · exact ⟨2, by decide, cx_good0 C.X C.tT C.Tn C.W C.R hk0 (hK _ _ _ _ _ (fun K2 h2 => ⟨3, by decide, mx_good0 C.xm C.mm C.xt C.TM C.G C.W (C.rm (fc9 C.tT _ 0)) hk0 (h2 _ _ _ _ ⟨_, _, _, zrf Z (fc9 C.tT _ 0) (up_at _ _ _ _) (by decide) (Z.c9 rfl rfl)⟩)⟩))⟩
    · exact ⟨2, by decide, cx_good1 C.X C.tT C.Tn C.W C.R hk0 (hK _ _ _ _ _ (fun K2 h2 => ⟨3, by decide, mx_good1 C.xm C.mm C.xt C.TM C.G C.W (C.rm (fc9 C.tT _ 0)) hk0 (h2 _ _ _ _ ⟨_, _, _, zrf Z (fc9 C.tT _ 0) (up_at _ _ _ _) (by decide) (Z.c9 rfl rfl)⟩)⟩))⟩
    · exact ⟨2, by decide, cx_good2 C.X C.tT C.Tn C.W C.R hk0 C.gp (hK _ _ _ _ _ (fun K2 h2 => ⟨3, by decide, mx_good2 C.xm C.mm C.xt C.TM C.G C.W (C.rm (fc9 C.tT _ 0)) (C.vm hc (fc9 C.tT _ 0)) hk0 (h2 _ _ _ _ ⟨_, _, _, zrf Z (fc9 C.tT _ 0) (up_at _ _ _ _) (by decide) (Z.c9 rfl rfl)⟩)⟩))⟩
    · exact ⟨4, by decide, cx_good3 C.X C.tT C.Tn C.W C.R hk0 C.L.2.2.1 (hK _ _ _ _ _ (fun K2 h2 => ⟨3, by decide, mx_good3 C.xm C.mm C.xt C.TM C.G C.W (C.rm (fc9 C.tT _ 0)) C.L.2.2.1 hk0 (h2 _ _ _ _ ⟨_, _, _, zrf Z (fc9 C.tT _ 0) (up_at _ _ _ _) (by decide) (Z.c9 rfl rfl)⟩)⟩))⟩
theorem du_seen {a b d : Int32} (hc : c < 99999) (hZ : LAZ c mi ml mr dom) : DU G c yX11_seen cX11_seen 4 (some .int) [.ref 0, .int a, .int b, .int d] yX13_seen cX13_seen 5 (some .int) [.ref 1000, .int a, .int b, .int d] mi ml mr dom := by
  obtain ⟨T, T', t, Z⟩ := hZ
  intro K hK
  rcases zcase Z with ⟨rfl, U⟩ | ⟨M, v, C⟩
  · exact ⟨2, by decide, cx_seenB1 U.X U.tT U.Tn U.W U.R (bad00 _ _ _) (hK _ _ _ _ _ (fun K2 h2 => ⟨3, by decide, mx_seenN U.TM  (h2 _ _ _ _ ⟨_, _, _, zrf Z (fc9 U.tT _ 1) (up_at _ _ _ _) (by decide) (Z.c9 rfl rfl)⟩)⟩))⟩
  · have w := C.W.1
    rcases bad_or a (t 0 5) (by omega) with hb0 | ⟨p, hk0, rfl⟩
    · exact ⟨2, by decide, cx_seenB1 C.X C.tT C.Tn C.W C.R hb0 (hK _ _ _ _ _ (fun K2 h2 => ⟨3, by decide, mx_seenB1 C.xm C.mm C.xt C.TM C.G C.W (C.rm (fc9 C.tT _ 1)) hb0 (h2 _ _ _ _ ⟨_, _, _, zrf Z (fc9 C.tT _ 1) (up_at _ _ _ _) (by decide) (Z.c9 rfl rfl)⟩)⟩))⟩
    rcases bad_or b (t 0 3) (by omega) with hb1 | ⟨h, hk1, rfl⟩
    · exact ⟨2, by decide, cx_seenB2 C.X C.tT C.Tn C.W C.R hk0 hb1 (hK _ _ _ _ _ (fun K2 h2 => ⟨3, by decide, mx_seenB2 C.xm C.mm C.xt C.TM C.G C.W (C.rm (fc9 C.tT _ 1)) hk0 hb1 (h2 _ _ _ _ ⟨_, _, _, zrf Z (fc9 C.tT _ 1) (up_at _ _ _ _) (by decide) (Z.c9 rfl rfl)⟩)⟩))⟩
    rcases bad_or d (24) (by omega) with hb2 | ⟨x, hk2, rfl⟩
    · exact ⟨2, by decide, cx_seenB3 C.X C.tT C.Tn C.W C.R hk0 hk1 hb2 (hK _ _ _ _ _ (fun K2 h2 => ⟨3, by decide, mx_seenB3 C.xm C.mm C.xt C.TM C.G C.W (C.rm (fc9 C.tT _ 2)) hk0 hk1 hb2 (h2 _ _ _ _ ⟨_, _, _, zrf Z (fc9 C.tT _ 2) (up_at _ _ _ _) (by decide) (Z.c9 rfl rfl)⟩)⟩))⟩
    exact ⟨3, by decide, cx_seen C.X C.tT C.Tn C.W C.R hk0 hk1 hk2 (hK _ _ _ _ _ (fun K2 h2 => ⟨3, by decide, mx_seen C.xm C.mm C.xt C.TM C.G C.W (C.rm (fc9 C.tT _ 0)) hk0 hk1 hk2 (h2 _ _ _ _ ⟨_, _, _, zrf Z (fc9 C.tT _ 0) (up_at _ _ _ _) (by decide) (Z.c9 rfl rfl)⟩)⟩))⟩
theorem du_taken {a b d : Int32} (hc : c < 99999) (hZ : LAZ c mi ml mr dom) : DU G c yX11_taken cX11_taken 4 (some .int) [.ref 0, .int a, .int b, .int d] yX13_taken cX13_taken 5 (some .int) [.ref 1000, .int a, .int b, .int d] mi ml mr dom := by
  obtain ⟨T, T', t, Z⟩ := hZ
  intro K hK
  rcases zcase Z with ⟨rfl, U⟩ | ⟨M, v, C⟩
  · exact ⟨2, by decide, cx_takenB1 U.X U.tT U.Tn U.W U.R (bad00 _ _ _) (hK _ _ _ _ _ (fun K2 h2 => ⟨3, by decide, mx_takenN U.TM  (h2 _ _ _ _ ⟨_, _, _, zrf Z (fc9 U.tT _ 1) (up_at _ _ _ _) (by decide) (Z.c9 rfl rfl)⟩)⟩))⟩
  · have w := C.W.1
    rcases bad_or a (t 0 5) (by omega) with hb0 | ⟨p, hk0, rfl⟩
    · exact ⟨2, by decide, cx_takenB1 C.X C.tT C.Tn C.W C.R hb0 (hK _ _ _ _ _ (fun K2 h2 => ⟨3, by decide, mx_takenB1 C.xm C.mm C.xt C.TM C.G C.W (C.rm (fc9 C.tT _ 1)) hb0 (h2 _ _ _ _ ⟨_, _, _, zrf Z (fc9 C.tT _ 1) (up_at _ _ _ _) (by decide) (Z.c9 rfl rfl)⟩)⟩))⟩
    rcases bad_or b (t 0 3) (by omega) with hb1 | ⟨h, hk1, rfl⟩
    · exact ⟨2, by decide, cx_takenB2 C.X C.tT C.Tn C.W C.R hk0 hb1 (hK _ _ _ _ _ (fun K2 h2 => ⟨3, by decide, mx_takenB2 C.xm C.mm C.xt C.TM C.G C.W (C.rm (fc9 C.tT _ 1)) hk0 hb1 (h2 _ _ _ _ ⟨_, _, _, zrf Z (fc9 C.tT _ 1) (up_at _ _ _ _) (by decide) (Z.c9 rfl rfl)⟩)⟩))⟩
    rcases bad_or d (24) (by omega) with hb2 | ⟨x, hk2, rfl⟩
    · exact ⟨2, by decide, cx_takenB3 C.X C.tT C.Tn C.W C.R hk0 hk1 hb2 (hK _ _ _ _ _ (fun K2 h2 => ⟨3, by decide, mx_takenB3 C.xm C.mm C.xt C.TM C.G C.W (C.rm (fc9 C.tT _ 2)) hk0 hk1 hb2 (h2 _ _ _ _ ⟨_, _, _, zrf Z (fc9 C.tT _ 2) (up_at _ _ _ _) (by decide) (Z.c9 rfl rfl)⟩)⟩))⟩
    exact ⟨5, by decide, cx_taken C.X C.tT C.Tn C.W C.R hk0 hk1 hk2 (hK _ _ _ _ _ (fun K2 h2 => ⟨5, by decide, mx_taken C.xm C.mm C.xt C.TM C.G C.W (C.rm (fc9 C.tT _ 0)) hk0 hk1 hk2 (h2 _ _ _ _ ⟨_, _, _, zrf Z (fc9 C.tT _ 0) (up_at _ _ _ _) (by decide) (Z.c9 rfl rfl)⟩)⟩))⟩
theorem du_fine {a b d : Int32} (hc : c < 99999) (hZ : LAZ c mi ml mr dom) : DU G c yX11_fine cX11_fine 4 (some .int) [.ref 0, .int a, .int b, .int d] yX13_fine cX13_fine 5 (some .int) [.ref 1000, .int a, .int b, .int d] mi ml mr dom := by
  obtain ⟨T, T', t, Z⟩ := hZ
  intro K hK
  rcases zcase Z with ⟨rfl, U⟩ | ⟨M, v, C⟩
  · exact ⟨2, by decide, cx_fineB1 U.X U.tT U.Tn U.W U.R (bad00 _ _ _) (hK _ _ _ _ _ (fun K2 h2 => ⟨3, by decide, mx_fineN U.TM  (h2 _ _ _ _ ⟨_, _, _, zrf Z (fc9 U.tT _ 1) (up_at _ _ _ _) (by decide) (Z.c9 rfl rfl)⟩)⟩))⟩
  · have w := C.W.1
    rcases bad_or a (t 0 5) (by omega) with hb0 | ⟨p, hk0, rfl⟩
    · exact ⟨2, by decide, cx_fineB1 C.X C.tT C.Tn C.W C.R hb0 (hK _ _ _ _ _ (fun K2 h2 => ⟨3, by decide, mx_fineB1 C.xm C.mm C.xt C.TM C.G C.W (C.rm (fc9 C.tT _ 1)) hb0 (h2 _ _ _ _ ⟨_, _, _, zrf Z (fc9 C.tT _ 1) (up_at _ _ _ _) (by decide) (Z.c9 rfl rfl)⟩)⟩))⟩
    rcases bad_or b (t 0 3) (by omega) with hb1 | ⟨h, hk1, rfl⟩
    · exact ⟨2, by decide, cx_fineB2 C.X C.tT C.Tn C.W C.R hk0 hb1 (hK _ _ _ _ _ (fun K2 h2 => ⟨3, by decide, mx_fineB2 C.xm C.mm C.xt C.TM C.G C.W (C.rm (fc9 C.tT _ 1)) hk0 hb1 (h2 _ _ _ _ ⟨_, _, _, zrf Z (fc9 C.tT _ 1) (up_at _ _ _ _) (by decide) (Z.c9 rfl rfl)⟩)⟩))⟩
    rcases bad_or d (24) (by omega) with hb2 | ⟨x, hk2, rfl⟩
    · exact ⟨2, by decide, cx_fineB3 C.X C.tT C.Tn C.W C.R hk0 hk1 hb2 (hK _ _ _ _ _ (fun K2 h2 => ⟨3, by decide, mx_fineB3 C.xm C.mm C.xt C.TM C.G C.W (C.rm (fc9 C.tT _ 2)) hk0 hk1 hb2 (h2 _ _ _ _ ⟨_, _, _, zrf Z (fc9 C.tT _ 2) (up_at _ _ _ _) (by decide) (Z.c9 rfl rfl)⟩)⟩))⟩
    exact ⟨3, by decide, cx_fine C.X C.tT C.Tn C.W C.R hk0 hk1 hk2 (hK _ _ _ _ _ (fun K2 h2 => ⟨3, by decide, mx_fine C.xm C.mm C.xt C.TM C.G C.W (C.rm (fc9 C.tT _ 0)) hk0 hk1 hk2 (h2 _ _ _ _ ⟨_, _, _, zrf Z (fc9 C.tT _ 0) (up_at _ _ _ _) (by decide) (Z.c9 rfl rfl)⟩)⟩))⟩
theorem du_visit {a b : Int32} (hc : c < 99999) (hZ : LAZ c mi ml mr dom) : DU G c yX11_visit cX11_visit 4 (some .int) [.ref 0, .int a, .int b] yX13_visit cX13_visit 4 (some .int) [.ref 1000, .int a, .int b] mi ml mr dom := by
  obtain ⟨T, T', t, Z⟩ := hZ
  intro K hK
  rcases zcase Z with ⟨rfl, U⟩ | ⟨M, v, C⟩
  · exact ⟨2, by decide, cx_visitB1 U.X U.tT U.Tn U.W U.R (bad00 _ _ _) (hK _ _ _ _ _ (fun K2 h2 => ⟨3, by decide, mx_visitN U.TM  (h2 _ _ _ _ ⟨_, _, _, zrf Z (fc9 U.tT _ 1) (up_at _ _ _ _) (by decide) (Z.c9 rfl rfl)⟩)⟩))⟩
  · have w := C.W.1
    rcases bad_or a (t 0 7) (by omega) with hb0 | ⟨k, hk0, rfl⟩
    · exact ⟨2, by decide, cx_visitB1 C.X C.tT C.Tn C.W C.R hb0 (hK _ _ _ _ _ (fun K2 h2 => ⟨4, by decide, mx_visitB1 C.xm C.mm C.xt C.TM C.G C.W (C.rm (fc9 C.tT _ 1)) hb0 (h2 _ _ _ _ ⟨_, _, _, zrf Z (fc9 C.tT _ 1) (up_at _ _ _ _) (by decide) (Z.c9 rfl rfl)⟩)⟩))⟩
    rcases bad_or b (5) (by omega) with hb1 | ⟨j, hk1, rfl⟩
    · exact ⟨2, by decide, cx_visitB2 C.X C.tT C.Tn C.W C.R hk0 hb1 (hK _ _ _ _ _ (fun K2 h2 => ⟨4, by decide, mx_visitB2 C.xm C.mm C.xt C.TM C.G C.W (C.rm (fc9 C.tT _ 1)) hk0 hb1 (h2 _ _ _ _ ⟨_, _, _, zrf Z (fc9 C.tT _ 1) (up_at _ _ _ _) (by decide) (Z.c9 rfl rfl)⟩)⟩))⟩
    have q9 : j = 0 ∨ j = 1 ∨ j = 2 ∨ j = 3 ∨ j = 4 := by omega
    rcases q9 with rfl | rfl | rfl | rfl | rfl
    · exact ⟨2, by decide, cx_visit0 C.X C.tT C.Tn C.W C.R hk0 (hK _ _ _ _ _ (fun K2 h2 => ⟨4, by decide, mx_visit0 C.xm C.mm C.xt C.TM C.G C.W (C.rm (fc9 C.tT _ 0)) hk0 (h2 _ _ _ _ ⟨_, _, _, zrf Z (fc9 C.tT _ 0) (up_at _ _ _ _) (by decide) (Z.c9 rfl rfl)⟩)⟩))⟩
    · exact ⟨2, by decide, cx_visit1 C.X C.tT C.Tn C.W C.R hk0 (hK _ _ _ _ _ (fun K2 h2 => ⟨4, by decide, mx_visit1 C.xm C.mm C.xt C.TM C.G C.W (C.rm (fc9 C.tT _ 0)) hk0 (h2 _ _ _ _ ⟨_, _, _, zrf Z (fc9 C.tT _ 0) (up_at _ _ _ _) (by decide) (Z.c9 rfl rfl)⟩)⟩))⟩
    · exact ⟨2, by decide, cx_visit2 C.X C.tT C.Tn C.W C.R hk0 (hK _ _ _ _ _ (fun K2 h2 => ⟨4, by decide, mx_visit2 C.xm C.mm C.xt C.TM C.G C.W (C.rm (fc9 C.tT _ 0)) hk0 (h2 _ _ _ _ ⟨_, _, _, zrf Z (fc9 C.tT _ 0) (up_at _ _ _ _) (by decide) (Z.c9 rfl rfl)⟩)⟩))⟩
    · exact ⟨4, by decide, cx_visit3 C.X C.tT C.Tn C.W C.R hk0 (hK _ _ _ _ _ (fun K2 h2 => ⟨4, by decide, mx_visit3 C.xm C.mm C.xt C.TM C.G C.W (C.rm (fc9 C.tT _ 0)) hk0 (h2 _ _ _ _ ⟨_, _, _, zrf Z (fc9 C.tT _ 0) (up_at _ _ _ _) (by decide) (Z.c9 rfl rfl)⟩)⟩))⟩
    · exact ⟨4, by decide, cx_visit4 C.X C.tT C.Tn C.W C.R hk0 (hK _ _ _ _ _ (fun K2 h2 => ⟨4, by decide, mx_visit4 C.xm C.mm C.xt C.TM C.G C.W (C.rm (fc9 C.tT _ 0)) hk0 (h2 _ _ _ _ ⟨_, _, _, zrf Z (fc9 C.tT _ 0) (up_at _ _ _ _) (by decide) (Z.c9 rfl rfl)⟩)⟩))⟩
theorem du_pairs {a b : Int32} (hc : c < 99999) (hZ : LAZ c mi ml mr dom) : DU G c yX11_pairs cX11_pairs 5 (some .int) [.ref 0, .int a, .int b] yX13_pairs cX13_pairs 6 (some .int) [.ref 1000, .int a, .int b] mi ml mr dom := by
  obtain ⟨T, T', t, Z⟩ := hZ
  intro K hK
  rcases zcase Z with ⟨rfl, U⟩ | ⟨M, v, C⟩
  · exact ⟨2, by decide, cx_pairsB U.X U.tT U.Tn U.W U.R (bad00 _ _ _) (hK _ _ _ _ _ (fun K2 h2 => ⟨3, by decide, mx_pairsN U.TM  (h2 _ _ _ _ ⟨_, _, _, zrf Z (fc9 U.tT _ 1) (up_at _ _ _ _) (by decide) (Z.c9 rfl rfl)⟩)⟩))⟩
  · have w := C.W.1
    rcases bad_or a (t 0 3) (by omega) with hb0 | ⟨h, hk0, rfl⟩
    · exact ⟨2, by decide, cx_pairsB C.X C.tT C.Tn C.W C.R hb0 (hK _ _ _ _ _ (fun K2 h2 => ⟨6, by decide, mx_pairsB C.xm C.mm C.xt C.TM C.G C.W (C.rm (fc9 C.tT _ 1)) hb0 (h2 _ _ _ _ ⟨_, _, _, zrf Z (fc9 C.tT _ 1) (up_at _ _ _ _) (by decide) (Z.c9 rfl rfl)⟩)⟩))⟩
    rcases bad_or b (24) (by omega) with hb1 | ⟨x, hk1, rfl⟩
    · exact ⟨2, by decide, cx_pairsB2 C.X C.tT C.Tn C.W C.R hk0 hb1 (hK _ _ _ _ _ (fun K2 h2 => ⟨6, by decide, mx_pairsB2 C.xm C.mm C.xt C.TM C.G C.W (C.rm (fc9 C.tT _ 2)) hk0 hb1 (h2 _ _ _ _ ⟨_, _, _, zrf Z (fc9 C.tT _ 2) (up_at _ _ _ _) (by decide) (Z.c9 rfl rfl)⟩)⟩))⟩
    exact ⟨5, by decide, cx_pairs C.X C.tT C.Tn C.W C.R hk0 hk1 (hK _ _ _ _ _ (fun K2 h2 => ⟨6, by decide, mx_pairs C.xm C.mm C.xt C.TM C.G C.W (C.rm (fc9 C.tT _ 0)) hk0 hk1 (h2 _ _ _ _ ⟨_, _, _, zrf Z (fc9 C.tT _ 0) (up_at _ _ _ _) (by decide) (Z.c9 rfl rfl)⟩)⟩))⟩
theorem du_knownAt {a : Int32} (hc : c < 99999) (hZ : LAZ c mi ml mr dom) : DU G c yX11_knownAt cX11_knownAt 4 (some .int) [.ref 0, .int a] yX13_knownAt cX13_knownAt 4 (some .int) [.ref 1000, .int a] mi ml mr dom := by
  obtain ⟨T, T', t, Z⟩ := hZ
  intro K hK
  rcases zcase Z with ⟨rfl, U⟩ | ⟨M, v, C⟩
  · exact ⟨2, by decide, cx_knownAtB U.X U.tT U.Tn U.W U.R (bad00 _ _ _) (hK _ _ _ _ _ (fun K2 h2 => ⟨3, by decide, mx_knownAtN U.TM  (h2 _ _ _ _ ⟨_, _, _, zrf Z (fc9 U.tT _ 1) (up_at _ _ _ _) (by decide) (Z.c9 rfl rfl)⟩)⟩))⟩
  · have w := C.W.1
    rcases bad_or a (t 0 5) (by omega) with hb0 | ⟨p, hk0, rfl⟩
    · exact ⟨2, by decide, cx_knownAtB C.X C.tT C.Tn C.W C.R hb0 (hK _ _ _ _ _ (fun K2 h2 => ⟨5, by decide, mx_knownAtB C.xm C.mm C.xt C.TM C.G C.W (C.rm (fc9 C.tT _ 1)) hb0 (h2 _ _ _ _ ⟨_, _, _, zrf Z (fc9 C.tT _ 1) (up_at _ _ _ _) (by decide) (Z.c9 rfl rfl)⟩)⟩))⟩
    exact ⟨5, by decide, cx_knownAt C.X C.tT C.Tn C.W C.R hk0 (hK _ _ _ _ _ (fun K2 h2 => ⟨5, by decide, mx_knownAt C.xm C.mm C.xt C.TM C.G C.W (C.rm (fc9 C.tT _ 0)) C.L hk0 (h2 _ _ _ _ ⟨_, _, _, zrf Z (fc9 C.tT _ 0) (up_at _ _ _ _) (by decide) (Z.c9 rfl rfl)⟩)⟩))⟩
theorem du_fines {a : Int32} (hc : c < 99999) (hZ : LAZ c mi ml mr dom) : DU G c yX11_fines cX11_fines 4 (some .int) [.ref 0, .int a] yX13_fines cX13_fines 4 (some .int) [.ref 1000, .int a] mi ml mr dom := by
  obtain ⟨T, T', t, Z⟩ := hZ
  intro K hK
  rcases zcase Z with ⟨rfl, U⟩ | ⟨M, v, C⟩
  · exact ⟨2, by decide, cx_finesB U.X U.tT U.Tn U.W U.R (bad00 _ _ _) (hK _ _ _ _ _ (fun K2 h2 => ⟨3, by decide, mx_finesN U.TM  (h2 _ _ _ _ ⟨_, _, _, zrf Z (fc9 U.tT _ 1) (up_at _ _ _ _) (by decide) (Z.c9 rfl rfl)⟩)⟩))⟩
  · have w := C.W.1
    rcases bad_or a (t 0 5) (by omega) with hb0 | ⟨p, hk0, rfl⟩
    · exact ⟨2, by decide, cx_finesB C.X C.tT C.Tn C.W C.R hb0 (hK _ _ _ _ _ (fun K2 h2 => ⟨4, by decide, mx_finesB C.xm C.mm C.xt C.TM C.G C.W (C.rm (fc9 C.tT _ 1)) hb0 (h2 _ _ _ _ ⟨_, _, _, zrf Z (fc9 C.tT _ 1) (up_at _ _ _ _) (by decide) (Z.c9 rfl rfl)⟩)⟩))⟩
    exact ⟨4, by decide, cx_fines C.X C.tT C.Tn C.W C.R hk0 (hK _ _ _ _ _ (fun K2 h2 => ⟨4, by decide, mx_fines C.xm C.mm C.xt C.TM C.G C.W (C.rm (fc9 C.tT _ 0)) hk0 (h2 _ _ _ _ ⟨_, _, _, zrf Z (fc9 C.tT _ 0) (up_at _ _ _ _) (by decide) (Z.c9 rfl rfl)⟩)⟩))⟩
theorem du_bares {a : Int32} (hc : c < 99999) (hZ : LAZ c mi ml mr dom) : DU G c yX11_bares cX11_bares 4 (some .int) [.ref 0, .int a] yX13_bares cX13_bares 4 (some .int) [.ref 1000, .int a] mi ml mr dom := by
  obtain ⟨T, T', t, Z⟩ := hZ
  intro K hK
  rcases zcase Z with ⟨rfl, U⟩ | ⟨M, v, C⟩
  · exact ⟨2, by decide, cx_baresB U.X U.tT U.Tn U.W U.R (bad00 _ _ _) (hK _ _ _ _ _ (fun K2 h2 => ⟨3, by decide, mx_baresN U.TM  (h2 _ _ _ _ ⟨_, _, _, zrf Z (fc9 U.tT _ 1) (up_at _ _ _ _) (by decide) (Z.c9 rfl rfl)⟩)⟩))⟩
  · have w := C.W.1
    rcases bad_or a (t 0 5) (by omega) with hb0 | ⟨p, hk0, rfl⟩
    · exact ⟨2, by decide, cx_baresB C.X C.tT C.Tn C.W C.R hb0 (hK _ _ _ _ _ (fun K2 h2 => ⟨4, by decide, mx_baresB C.xm C.mm C.xt C.TM C.G C.W (C.rm (fc9 C.tT _ 1)) hb0 (h2 _ _ _ _ ⟨_, _, _, zrf Z (fc9 C.tT _ 1) (up_at _ _ _ _) (by decide) (Z.c9 rfl rfl)⟩)⟩))⟩
    exact ⟨4, by decide, cx_bares C.X C.tT C.Tn C.W C.R hk0 (hK _ _ _ _ _ (fun K2 h2 => ⟨4, by decide, mx_bares C.xm C.mm C.xt C.TM C.G C.W (C.rm (fc9 C.tT _ 0)) hk0 (h2 _ _ _ _ ⟨_, _, _, zrf Z (fc9 C.tT _ 0) (up_at _ _ _ _) (by decide) (Z.c9 rfl rfl)⟩)⟩))⟩
theorem du_met {a : Int32} (hc : c < 99999) (hZ : LAZ c mi ml mr dom) : DU G c yX11_met cX11_met 6 (some .int) [.ref 0, .int a] yX13_met cX13_met 5 (some .int) [.ref 1000, .int a] mi ml mr dom := by
  obtain ⟨T, T', t, Z⟩ := hZ
  intro K hK
  rcases zcase Z with ⟨rfl, U⟩ | ⟨M, v, C⟩
  · exact ⟨2, by decide, cx_metB U.X U.tT U.Tn U.W U.R (bad00 _ _ _) (hK _ _ _ _ _ (fun K2 h2 => ⟨3, by decide, mx_metN U.TM  (h2 _ _ _ _ ⟨_, _, _, zrf Z (fc9 U.tT _ 1) (up_at _ _ _ _) (by decide) (Z.c9 rfl rfl)⟩)⟩))⟩
  · have w := C.W.1
    rcases bad_or a (t 0 7) (by omega) with hb0 | ⟨p, hk0, rfl⟩
    · exact ⟨2, by decide, cx_metB C.X C.tT C.Tn C.W C.R hb0 (hK _ _ _ _ _ (fun K2 h2 => ⟨3, by decide, mx_metB C.xm C.mm C.xt C.TM C.G C.W (C.rm (fc9 C.tT _ 1)) hb0 (h2 _ _ _ _ ⟨_, _, _, zrf Z (fc9 C.tT _ 1) (up_at _ _ _ _) (by decide) (Z.c9 rfl rfl)⟩)⟩))⟩
    exact ⟨2, by decide, cx_met C.X C.tT C.Tn C.W C.R hk0 (hK _ _ _ _ _ (fun K2 h2 => ⟨3, by decide, mx_met C.xm C.mm C.xt C.TM C.G C.W (C.rm (fc9 C.tT _ 0)) hk0 (h2 _ _ _ _ ⟨_, _, _, zrf Z (fc9 C.tT _ 0) (up_at _ _ _ _) (by decide) (Z.c9 rfl rfl)⟩)⟩))⟩
theorem du_busiest (hc : c < 99999) (hZ : LAZ c mi ml mr dom) : DU G c yX11_busiest cX11_busiest 5 (some .int) [.ref 0] yX13_busiest cX13_busiest 6 (some .int) [.ref 1000] mi ml mr dom := by
  obtain ⟨T, T', t, Z⟩ := hZ
  intro K hK
  rcases zcase Z with ⟨rfl, U⟩ | ⟨M, v, C⟩
  · exact ⟨2, by decide, cx_busiestN U.X U.tT U.Tn U.W U.R U.h0 (hK _ _ _ _ _ (fun K2 h2 => ⟨3, by decide, mx_busiestN U.TM  (h2 _ _ _ _ ⟨_, _, _, zrf Z (fc9 U.tT _ 1) (up_at _ _ _ _) (by decide) (Z.c9 rfl rfl)⟩)⟩))⟩
  · have w := C.W.1
    exact ⟨3, by decide, cx_busiest C.X C.tT C.Tn C.W C.R C.h0 (hK _ _ _ _ _ (fun K2 h2 => ⟨2, by decide, mx_busiest C.xm C.mm C.xt C.TM C.G C.W (C.rm (fc9 C.tT _ 0))  (h2 _ _ _ _ ⟨_, _, _, zrf Z (fc9 C.tT _ 0) (up_at _ _ _ _) (by decide) (Z.c9 rfl rfl)⟩)⟩))⟩
theorem du_apart {a b : Int32} (hc : c < 99999) (hZ : LAZ c mi ml mr dom) : DU G c yX11_apart cX11_apart 5 (some .int) [.ref 0, .int a, .int b] yX13_apart cX13_apart 5 (some .int) [.ref 1000, .int a, .int b] mi ml mr dom := by
  obtain ⟨T, T', t, Z⟩ := hZ
  intro K hK
  rcases zcase Z with ⟨rfl, U⟩ | ⟨M, v, C⟩
  · exact ⟨2, by decide, cx_apartB1 U.X U.tT U.Tn U.W U.R (bad00 _ _ _) (hK _ _ _ _ _ (fun K2 h2 => ⟨3, by decide, mx_apartN U.TM  (h2 _ _ _ _ ⟨_, _, _, zrf Z (fc9 U.tT _ 1) (up_at _ _ _ _) (by decide) (Z.c9 rfl rfl)⟩)⟩))⟩
  · have w := C.W.1
    rcases bad_or a (t 0 5) (by omega) with hb0 | ⟨p, hk0, rfl⟩
    · exact ⟨2, by decide, cx_apartB1 C.X C.tT C.Tn C.W C.R hb0 (hK _ _ _ _ _ (fun K2 h2 => ⟨4, by decide, mx_apartB1 C.xm C.mm C.xt C.TM C.G C.W (C.rm (fc9 C.tT _ 1)) hb0 (h2 _ _ _ _ ⟨_, _, _, zrf Z (fc9 C.tT _ 1) (up_at _ _ _ _) (by decide) (Z.c9 rfl rfl)⟩)⟩))⟩
    rcases bad_or b (t 0 5) (by omega) with hb1 | ⟨q, hk1, rfl⟩
    · exact ⟨2, by decide, cx_apartB2 C.X C.tT C.Tn C.W C.R hk0 hb1 (hK _ _ _ _ _ (fun K2 h2 => ⟨4, by decide, mx_apartB2 C.xm C.mm C.xt C.TM C.G C.W (C.rm (fc9 C.tT _ 1)) hk0 hb1 (h2 _ _ _ _ ⟨_, _, _, zrf Z (fc9 C.tT _ 1) (up_at _ _ _ _) (by decide) (Z.c9 rfl rfl)⟩)⟩))⟩
    by_cases hpq : p = q
    · subst hpq
      exact ⟨2, by decide, cx_apartB3 C.X C.tT C.Tn C.W C.R hk0 (hK _ _ _ _ _ (fun K2 h2 => ⟨4, by decide, mx_apartB3 C.xm C.mm C.xt C.TM C.G C.W (C.rm (fc9 C.tT _ 1)) hk0 (h2 _ _ _ _ ⟨_, _, _, zrf Z (fc9 C.tT _ 1) (up_at _ _ _ _) (by decide) (Z.c9 rfl rfl)⟩)⟩))⟩
    · exact ⟨4, by decide, cx_apart C.X C.tT C.Tn C.W C.R hk0 hk1 hpq (hK _ _ _ _ _ (fun K2 h2 => ⟨4, by decide, mx_apart C.xm C.mm C.xt C.TM C.G C.W (C.rm (fc9 C.tT _ 0)) C.L hk0 hk1 hpq (h2 _ _ _ _ ⟨_, _, _, zrf Z (fc9 C.tT _ 0) (up_at _ _ _ _) (by decide) (Z.c9 rfl rfl)⟩)⟩))⟩
theorem du_another {a : Int32} (hc : c < 99999) (hZ : LAZ c mi ml mr dom) : DU G c yX11_another cX11_another 2 (some .int) [.ref 0, .int a] yX13_another cX13_another 2 (some .int) [.ref 1000, .int a] mi ml mr dom := by
  obtain ⟨T, T', t, Z⟩ := hZ
  intro K hK
  rcases zcase Z with ⟨rfl, U⟩ | ⟨M, v, C⟩
  · exact ⟨2, by decide, cx_anotherN U.X U.tT U.Tn U.W U.R U.h0 (hK _ _ _ _ _ (fun K2 h2 => ⟨3, by decide, mx_anotherN U.TM  (h2 _ _ _ _ ⟨_, _, _, zrf Z (fc9 U.tT _ 1) (up_at _ _ _ _) (by decide) (Z.c9 rfl rfl)⟩)⟩))⟩
  · have w := C.W.1
    rcases bad_or a 60 (by decide) with hb0 | ⟨s, hk0, rfl⟩
    · have hb1 : a < 10 ∨ 59 < a := by
        rcases hb0 with h | h
        · exact Or.inl (Int32.lt_trans h (by decide))
        · exact Or.inr (Int32.lt_of_lt_of_le (by decide) h)
      exact ⟨2, by decide, cx_anotherB C.X C.tT C.Tn C.W C.R C.h0 hb1 (hK _ _ _ _ _ (fun K2 h2 => ⟨5, by decide, mx_anotherB C.xm C.mm C.xt C.TM C.G C.W (C.rm (fc9 C.tT _ 2)) hb1 (h2 _ _ _ _ ⟨_, _, _, zrf Z (fc9 C.tT _ 2) (up_at _ _ _ _) (by decide) (Z.c9 rfl rfl)⟩)⟩))⟩
    · by_cases h10 : s < 10
      · have hb1 : nI s < 10 ∨ 59 < nI s := Or.inl (nI_lt (b := 10) h10 (by decide))
        exact ⟨2, by decide, cx_anotherB C.X C.tT C.Tn C.W C.R C.h0 hb1 (hK _ _ _ _ _ (fun K2 h2 => ⟨5, by decide, mx_anotherB C.xm C.mm C.xt C.TM C.G C.W (C.rm (fc9 C.tT _ 2)) hb1 (h2 _ _ _ _ ⟨_, _, _, zrf Z (fc9 C.tT _ 2) (up_at _ _ _ _) (by decide) (Z.c9 rfl rfl)⟩)⟩))⟩
      · exact ⟨5, by decide, cx_another C.X C.tT C.Tn C.W C.R C.h0 (by omega) (by omega) (hK _ _ _ _ _ (fun K2 h2 => ⟨5, by decide, mx_another C.xm C.mm C.xt C.TM C.G C.W (C.rm (fc9 C.tT _ 0)) (by omega) (by omega) (h2 _ _ _ _ ⟨_, _, _, zrf Z (fc9 C.tT _ 0) (up_at _ _ _ _) (by decide) (Z.c9 rfl rfl)⟩)⟩))⟩
theorem du_way {a b : Int32} (hc : c < 99999) (hZ : LAZ c mi ml mr dom) : DU G c yX11_way cX11_way 4 (some .int) [.ref 0, .int a, .int b] yX13_way cX13_way 3 (some .int) [.ref 1000, .int a, .int b] mi ml mr dom := by
  obtain ⟨T, T', t, Z⟩ := hZ
  intro K hK
  rcases zcase Z with ⟨rfl, U⟩ | ⟨M, v, C⟩
  · exact ⟨2, by decide, cx_wayB1 U.X U.tT U.Tn U.W U.R (bad00 _ _ _) (hK _ _ _ _ _ (fun K2 h2 => ⟨3, by decide, mx_wayN U.TM  (h2 _ _ _ _ ⟨_, _, _, zrf Z (fc9 U.tT _ 1) (up_at _ _ _ _) (by decide) (Z.c9 rfl rfl)⟩)⟩))⟩
  · have w := C.W.1
    rcases bad_or a (t 0 3) (by omega) with hb0 | ⟨h, hk0, rfl⟩
    · exact ⟨2, by decide, cx_wayB1 C.X C.tT C.Tn C.W C.R hb0 (hK _ _ _ _ _ (fun K2 h2 => ⟨3, by decide, mx_wayB1 C.xm C.mm C.xt C.TM C.G C.W (C.rm (fc9 C.tT _ 1)) hb0 (h2 _ _ _ _ ⟨_, _, _, zrf Z (fc9 C.tT _ 1) (up_at _ _ _ _) (by decide) (Z.c9 rfl rfl)⟩)⟩))⟩
    rcases bad_or b (t 0 3) (by omega) with hb1 | ⟨g, hk1, rfl⟩
    · exact ⟨2, by decide, cx_wayB2 C.X C.tT C.Tn C.W C.R hk0 hb1 (hK _ _ _ _ _ (fun K2 h2 => ⟨3, by decide, mx_wayB2 C.xm C.mm C.xt C.TM C.G C.W (C.rm (fc9 C.tT _ 1)) hk0 hb1 (h2 _ _ _ _ ⟨_, _, _, zrf Z (fc9 C.tT _ 1) (up_at _ _ _ _) (by decide) (Z.c9 rfl rfl)⟩)⟩))⟩
    exact ⟨2, by decide, cx_way C.X C.tT C.Tn C.W C.R hk0 hk1 (hK _ _ _ _ _ (fun K2 h2 => ⟨3, by decide, mx_way C.xm C.mm C.xt C.TM C.G C.W (C.rm (fc9 C.tT _ 0)) hk0 hk1 (h2 _ _ _ _ ⟨_, _, _, zrf Z (fc9 C.tT _ 0) (up_at _ _ _ _) (by decide) (Z.c9 rfl rfl)⟩)⟩))⟩
theorem du_pieces (hc : c < 99999) (hZ : LAZ c mi ml mr dom) : DU G c yX11_pieces cX11_pieces 3 (some .int) [.ref 0] yX13_pieces cX13_pieces 3 (some .int) [.ref 1000] mi ml mr dom := by
  obtain ⟨T, T', t, Z⟩ := hZ
  intro K hK
  rcases zcase Z with ⟨rfl, U⟩ | ⟨M, v, C⟩
  · exact ⟨2, by decide, cx_piecesN U.X U.tT U.Tn U.W U.R U.h0 (hK _ _ _ _ _ (fun K2 h2 => ⟨3, by decide, mx_piecesN U.TM  (h2 _ _ _ _ ⟨_, _, _, zrf Z (fc9 U.tT _ 1) (up_at _ _ _ _) (by decide) (Z.c9 rfl rfl)⟩)⟩))⟩
  · have w := C.W.1
    exact ⟨4, by decide, cx_pieces C.X C.tT C.Tn C.W C.R C.h0 C.L.2.2.1 (hK _ _ _ _ _ (fun K2 h2 => ⟨4, by decide, mx_pieces C.xm C.mm C.xt C.TM C.G C.W (C.rm (fc9 C.tT _ 0)) C.L.2.2.1 (h2 _ _ _ _ ⟨_, _, _, zrf Z (fc9 C.tT _ 0) (up_at _ _ _ _) (by decide) (Z.c9 rfl rfl)⟩)⟩))⟩
end DUO
