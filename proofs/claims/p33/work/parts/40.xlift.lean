
set_option maxHeartbeats 4000000 in
set_option maxRecDepth 100000 in
theorem X_feed (l : Launch) (dC : Nat → ClassId) (dI : Nat → Nat → Nat) (sz : Nat) (kA vA : Nat → Nat) (a : Nat → Nat) (k : Nat → ClassId) (q : Nat → Nat → Option Nat) (hQ : xQ a q) (hN : AD (fun _ => True) (xL a)) (x : Int32) (md ix : Nat → Int32) (hM : ∀ j : Nat, j < 4 → md j = 0 ∨ md j = 1) (x0 : Int32) (x1 : Int32) (x2 : Int32) (x3 : Int32) (x4 : Int32) : Met l yX11_feed (.code yX11_feed cX11_feed 6 (some .int) :: wsA) ({ frames := 1, cells := 0, slots := 0, locals := 22 }) (va_Pc [.ref (a 0), .int x0, .int x1, .int x2, .int x3, .int x4] (xS dC dI sz kA vA a k q x md ix)) (va_Qi (fun (r : Int32) (_ : Unit) => True) (fun _ t => xP dC dI a k q x md ix t.heap) (inL (xL a) sz)) 0 0 (inL (xL a) sz) := by
  refine Met.lift (fun ar U h => ?_)
  obtain ⟨rfl, rfl, ⟨v, z, w, f, g, hI, hP⟩, hK, hE, hT⟩ := h
  have hI0 := hI
  obtain ⟨iX, ⟨iM0, iM1, iM2, iM3⟩, ⟨iY0, iY1, iY2, iY3⟩⟩ := hI
  refine ⟨_, _, _, x_feed l dC dI _ (a 0) (a 1) (v 0 1) (a 2) (a 4) (a 6) (v 0 5) (v 0 6) (a 19) (a 24) (a 29) (a 30) (a 31) (a 36) (a 58) (a 107) (a 110) (a 119) (a 120) (v 0 18) (k 1) (f 1) x0 x1 x2 x3 x4 , ⟨rfl, rfl, hP.sub (ws' := [((a 0), .inr (11, [.ref (a 1), .int (v 0 1), .ref (a 2), .ref (a 4), .ref (a 6), .int (v 0 5), .int (v 0 6), .ref (a 19), .ref (a 24), .ref (a 29), .ref (a 30), .ref (a 31), .ref (a 36), .ref (a 58), .ref (a 107), .ref (a 110), .ref (a 119), .ref (a 120), .int (v 0 18)])), ((a 1), .inl ((k 1), 400, .inl (f 1)))]) [0, 1] rfl, hK.sub (tys' := [((k 1), .int)]) [0] rfl, (hN.D xW_L).sub (ws := (xW a k q v z w f g)) (ws' := [((a 0), .inr (11, [.ref (a 1), .int (v 0 1), .ref (a 2), .ref (a 4), .ref (a 6), .int (v 0 5), .int (v 0 6), .ref (a 19), .ref (a 24), .ref (a 29), .ref (a 30), .ref (a 31), .ref (a 36), .ref (a 58), .ref (a 107), .ref (a 110), .ref (a 119), .ref (a 120), .int (v 0 18)])), ((a 1), .inl ((k 1), 400, .inl (f 1)))]) [0, 1] (by decide) rfl, hE⟩, fun o t hq => ?_, fun p hp => lift_in (ws := (xW a k q v z w f g)) [0, 1] rfl xW_L hp⟩
  obtain ⟨⟨r, u, ho, hw, f_18, yy_17, hP1, -, -⟩, hz, hk⟩ := hq
  refine ⟨⟨r, (), ho, trivial, ?_⟩, hz, fun p h1 h2 => hk p h1 (fun h => h2 (lift_in (ws := (xW a k q v z w f g)) [0, 1] rfl xW_L h))⟩
  have s0 := xs_0 (rfl : (xW a k q v z w f g) = _) (yy_17 0) (v 0 5) (v 0 6) (v 0 18)
  have s1 := xs_1 s0 f_18
  refine ⟨_, _, _, _, _, ?_, rp_P hP hN xW_L [0, 1] rfl hk hP1 rfl (rp_c (rp_c (rp_n s1)))⟩
  exact hI0

set_option maxHeartbeats 4000000 in
set_option maxRecDepth 100000 in
theorem X_end (l : Launch) (dC : Nat → ClassId) (dI : Nat → Nat → Nat) (sz : Nat) (kA vA : Nat → Nat) (a : Nat → Nat) (k : Nat → ClassId) (q : Nat → Nat → Option Nat) (hQ : xQ a q) (hN : AD (fun _ => True) (xL a)) (x : Int32) (md ix : Nat → Int32) (hM : ∀ j : Nat, j < 4 → md j = 0 ∨ md j = 1) (x0 : Int32) : Met l yX11_end (.code yX11_end cX11_end 2 (some .int) :: wsA) ({ frames := 0, cells := 0, slots := 0, locals := 0 }) (va_Pc [.ref (a 0), .int x0] (xS dC dI sz kA vA a k q x md ix)) (va_Qi (fun (r : Int32) (_ : Unit) => True) (fun _ t => xP dC dI a k q x md ix t.heap) (inL (xL a) sz)) 0 0 (inL (xL a) sz) := by
  refine Met.lift (fun ar U h => ?_)
  obtain ⟨rfl, rfl, ⟨v, z, w, f, g, hI, hP⟩, hK, hE, hT⟩ := h
  have hI0 := hI
  obtain ⟨iX, ⟨iM0, iM1, iM2, iM3⟩, ⟨iY0, iY1, iY2, iY3⟩⟩ := hI
  refine ⟨_, _, _, x_end l dC dI _ (a 0) (a 1) (v 0 1) (a 2) (a 4) (a 6) (v 0 5) (v 0 6) (a 19) (a 24) (a 29) (a 30) (a 31) (a 36) (a 58) (a 107) (a 110) (a 119) (a 120) (v 0 18) x0 , ⟨rfl, rfl, hP.sub (ws' := [((a 0), .inr (11, [.ref (a 1), .int (v 0 1), .ref (a 2), .ref (a 4), .ref (a 6), .int (v 0 5), .int (v 0 6), .ref (a 19), .ref (a 24), .ref (a 29), .ref (a 30), .ref (a 31), .ref (a 36), .ref (a 58), .ref (a 107), .ref (a 110), .ref (a 119), .ref (a 120), .int (v 0 18)]))]) [0] rfl, hK.sub (tys' := []) [] rfl, (hN.D xW_L).sub (ws := (xW a k q v z w f g)) (ws' := [((a 0), .inr (11, [.ref (a 1), .int (v 0 1), .ref (a 2), .ref (a 4), .ref (a 6), .int (v 0 5), .int (v 0 6), .ref (a 19), .ref (a 24), .ref (a 29), .ref (a 30), .ref (a 31), .ref (a 36), .ref (a 58), .ref (a 107), .ref (a 110), .ref (a 119), .ref (a 120), .int (v 0 18)]))]) [0] (by decide) rfl, hE⟩, fun o t hq => ?_, fun p hp => lift_in (ws := (xW a k q v z w f g)) [0] rfl xW_L hp⟩
  obtain ⟨⟨r, u, ho, hw, yy_3, hP1, -, -⟩, hz, hk⟩ := hq
  refine ⟨⟨r, (), ho, trivial, ?_⟩, hz, fun p h1 h2 => hk p h1 (fun h => h2 (lift_in (ws := (xW a k q v z w f g)) [0] rfl xW_L h))⟩
  have s0 := xs_0 (rfl : (xW a k q v z w f g) = _) (yy_3 0) (v 0 5) (v 0 6) (v 0 18)
  refine ⟨_, _, _, _, _, ?_, rp_P hP hN xW_L [0] rfl hk hP1 rfl (rp_c (rp_n s0))⟩
  exact hI0

set_option maxHeartbeats 4000000 in
set_option maxRecDepth 100000 in
theorem X_dinner (l : Launch) (dC : Nat → ClassId) (dI : Nat → Nat → Nat) (sz : Nat) (kA vA : Nat → Nat) (a : Nat → Nat) (k : Nat → ClassId) (q : Nat → Nat → Option Nat) (hQ : xQ a q) (hN : AD (fun _ => True) (xL a)) (x : Int32) (md ix : Nat → Int32) (hM : ∀ j : Nat, j < 4 → md j = 0 ∨ md j = 1) : Met l yX11_dinner (.code yX11_dinner cX11_dinner 2 (some .int) :: wsA) ({ frames := 6, cells := 0, slots := 0, locals := 136 }) (va_Pc [.ref (a 0)] (xS dC dI sz kA vA a k q x md ix)) (va_Qi (fun (r : Int32) (_ : Unit) => True) (fun _ t => xP dC dI a k q x md ix t.heap) (inL (xL a) sz)) 0 0 (inL (xL a) sz) := by
  refine Met.lift (fun ar U h => ?_)
  obtain ⟨rfl, rfl, ⟨v, z, w, f, g, hI, hP⟩, hK, hE, hT⟩ := h
  have hI0 := hI
  obtain ⟨iX, ⟨iM0, iM1, iM2, iM3⟩, ⟨iY0, iY1, iY2, iY3⟩⟩ := hI
  refine ⟨_, _, _, x_dinner l dC dI _ kA vA (a 0) (a 1) (v 0 1) (a 2) (a 4) (a 6) (v 0 5) (v 0 6) (a 19) (a 24) (a 29) (a 30) (a 31) (a 36) (a 58) (a 107) (a 110) (a 119) (a 120) (v 0 18) (k 1) (f 1) (a 3) (w 3 0) (v 3 1) (v 3 2) (v 3 3) (v 19 0) (v 19 1) (v 19 2) (a 20) (a 21) (a 22) (a 23) (k 20) (f 20) (k 21) (f 21) (k 22) (f 22) (k 23) (f 23) (v 24 0) (v 24 1) (v 24 2) (a 25) (a 26) (a 27) (a 28) (k 25) (f 25) (k 26) (f 26) (k 27) (f 27) (k 28) (f 28) (v 29 0) (v 29 1) (v 29 2) (v 29 3) (v 29 4) (z 29 5) (v 31 0) (a 32) (a 33) (a 34) (a 35) (a 37) (v 36 1) (v 36 2) , ⟨rfl, rfl, hP.sub (ws' := [((a 0), .inr (11, [.ref (a 1), .int (v 0 1), .ref (a 2), .ref (a 4), .ref (a 6), .int (v 0 5), .int (v 0 6), .ref (a 19), .ref (a 24), .ref (a 29), .ref (a 30), .ref (a 31), .ref (a 36), .ref (a 58), .ref (a 107), .ref (a 110), .ref (a 119), .ref (a 120), .int (v 0 18)])), ((a 1), .inl ((k 1), 400, .inl (f 1))), ((a 2), .inr (2, [.ref (a 3)])), ((a 3), .inr (7, [(w 3 0), .int (v 3 1), .int (v 3 2), .int (v 3 3)])), ((a 19), .inr (1, [.int (v 19 0), .int (v 19 1), .int (v 19 2), .ref (a 20), .ref (a 21), .ref (a 22), .ref (a 23)])), ((a 20), .inl ((k 20), 8, .inl (f 20))), ((a 21), .inl ((k 21), 8, .inl (f 21))), ((a 22), .inl ((k 22), 8, .inl (f 22))), ((a 23), .inl ((k 23), 8, .inl (f 23))), ((a 24), .inr (1, [.int (v 24 0), .int (v 24 1), .int (v 24 2), .ref (a 25), .ref (a 26), .ref (a 27), .ref (a 28)])), ((a 25), .inl ((k 25), 8, .inl (f 25))), ((a 26), .inl ((k 26), 8, .inl (f 26))), ((a 27), .inl ((k 27), 8, .inl (f 27))), ((a 28), .inl ((k 28), 8, .inl (f 28))), ((a 29), .inr (3, [.int (v 29 0), .int (v 29 1), .int (v 29 2), .int (v 29 3), .int (v 29 4), .long (z 29 5)])), ((a 31), .inr (5, [.int (v 31 0), .ref (a 32), .ref (a 33), .ref (a 34), .ref (a 35)])), ((a 36), .inr (6, [.ref (a 37), .int (v 36 1), .int (v 36 2)]))]) [0, 1, 2, 3, 19, 20, 21, 22, 23, 24, 25, 26, 27, 28, 29, 31, 36] rfl, hK.sub (tys' := [((k 1), .int), ((k 20), .int), ((k 21), .int), ((k 22), .int), ((k 23), .int), ((k 25), .int), ((k 26), .int), ((k 27), .int), ((k 28), .int)]) [0, 8, 9, 10, 11, 12, 13, 14, 15] rfl, (hN.D xW_L).sub (ws := (xW a k q v z w f g)) (ws' := [((a 0), .inr (11, [.ref (a 1), .int (v 0 1), .ref (a 2), .ref (a 4), .ref (a 6), .int (v 0 5), .int (v 0 6), .ref (a 19), .ref (a 24), .ref (a 29), .ref (a 30), .ref (a 31), .ref (a 36), .ref (a 58), .ref (a 107), .ref (a 110), .ref (a 119), .ref (a 120), .int (v 0 18)])), ((a 1), .inl ((k 1), 400, .inl (f 1))), ((a 2), .inr (2, [.ref (a 3)])), ((a 3), .inr (7, [(w 3 0), .int (v 3 1), .int (v 3 2), .int (v 3 3)])), ((a 19), .inr (1, [.int (v 19 0), .int (v 19 1), .int (v 19 2), .ref (a 20), .ref (a 21), .ref (a 22), .ref (a 23)])), ((a 20), .inl ((k 20), 8, .inl (f 20))), ((a 21), .inl ((k 21), 8, .inl (f 21))), ((a 22), .inl ((k 22), 8, .inl (f 22))), ((a 23), .inl ((k 23), 8, .inl (f 23))), ((a 24), .inr (1, [.int (v 24 0), .int (v 24 1), .int (v 24 2), .ref (a 25), .ref (a 26), .ref (a 27), .ref (a 28)])), ((a 25), .inl ((k 25), 8, .inl (f 25))), ((a 26), .inl ((k 26), 8, .inl (f 26))), ((a 27), .inl ((k 27), 8, .inl (f 27))), ((a 28), .inl ((k 28), 8, .inl (f 28))), ((a 29), .inr (3, [.int (v 29 0), .int (v 29 1), .int (v 29 2), .int (v 29 3), .int (v 29 4), .long (z 29 5)])), ((a 31), .inr (5, [.int (v 31 0), .ref (a 32), .ref (a 33), .ref (a 34), .ref (a 35)])), ((a 36), .inr (6, [.ref (a 37), .int (v 36 1), .int (v 36 2)]))]) [0, 1, 2, 3, 19, 20, 21, 22, 23, 24, 25, 26, 27, 28, 29, 31, 36] (by decide) rfl, hE, hT.narrow (fun p hp => lift_in (ws := (xW a k q v z w f g)) [0, 1, 2, 3, 19, 20, 21, 22, 23, 24, 25, 26, 27, 28, 29, 31, 36] rfl xW_L hp)⟩, fun o t hq => ?_, fun p hp => lift_in (ws := (xW a k q v z w f g)) [0, 1, 2, 3, 19, 20, 21, 22, 23, 24, 25, 26, 27, 28, 29, 31, 36] rfl xW_L hp⟩
  obtain ⟨⟨r, u, ho, hw, f_19, f_20, f_21, f_22, f_23, f_24, f_25, f_26, yy_18, zz_27, hP1, -, -⟩, hz, hk⟩ := hq
  refine ⟨⟨r, (), ho, trivial, ?_⟩, hz, fun p h1 h2 => hk p h1 (fun h => h2 (lift_in (ws := (xW a k q v z w f g)) [0, 1, 2, 3, 19, 20, 21, 22, 23, 24, 25, 26, 27, 28, 29, 31, 36] rfl xW_L h))⟩
  have s0 := xs_0 (rfl : (xW a k q v z w f g) = _) (yy_18 0) (v 0 5) (v 0 6) (v 0 18)
  have s1 := xs_1 s0 (f 1)
  have s2 := xs_2 s1 
  have s3 := xs_3 s2 (.ref (a 1)) (yy_18 1) (yy_18 2) (yy_18 3)
  have s4 := xs_19 s3 (yy_18 12) (yy_18 13) (yy_18 14)
  have s5 := xs_20 s4 f_19
  have s6 := xs_21 s5 f_20
  have s7 := xs_22 s6 f_21
  have s8 := xs_23 s7 f_22
  have s9 := xs_24 s8 (yy_18 4) (yy_18 5) (yy_18 6)
  have s10 := xs_25 s9 f_23
  have s11 := xs_26 s10 f_24
  have s12 := xs_27 s11 f_25
  have s13 := xs_28 s12 f_26
  have s14 := xs_29 s13 (yy_18 7) (yy_18 8) (yy_18 9) (yy_18 10) (yy_18 11) (zz_27 0)
  have s15 := xs_31 s14 (yy_18 15)
  have s16 := xs_36 s15 (v 36 1) (yy_18 16)
  refine ⟨_, _, _, _, _, ?_, rp_P hP hN xW_L [0, 1, 2, 3, 19, 20, 21, 22, 23, 24, 25, 26, 27, 28, 29, 31, 36] rfl hk hP1 rfl (rp_c (rp_c (rp_c (rp_c (rp_c (rp_c (rp_c (rp_c (rp_c (rp_c (rp_c (rp_c (rp_c (rp_c (rp_c (rp_c (rp_c (rp_n s16))))))))))))))))))⟩
  exact hI0

set_option maxHeartbeats 4000000 in
set_option maxRecDepth 100000 in
theorem X_rule (l : Launch) (dC : Nat → ClassId) (dI : Nat → Nat → Nat) (sz : Nat) (kA vA : Nat → Nat) (a : Nat → Nat) (k : Nat → ClassId) (q : Nat → Nat → Option Nat) (hQ : xQ a q) (hN : AD (fun _ => True) (xL a)) (x : Int32) (md ix : Nat → Int32) (hM : ∀ j : Nat, j < 4 → md j = 0 ∨ md j = 1) : Met l yX11_rule (.code yX11_rule cX11_rule 3 (some .int) :: wsA) ({ frames := 30, cells := 0, slots := 0, locals := 710 }) (va_Pc [.ref (a 0)] (xS dC dI sz kA vA a k q x md ix)) (va_Qi (fun (r : Int32) (_ : Unit) => True) (fun _ t => xP dC dI a k q x md ix t.heap) (inL (xL a) sz)) 0 0 (inL (xL a) sz) := by
  refine Met.lift (fun ar U h => ?_)
  obtain ⟨rfl, rfl, ⟨v, z, w, f, g, hI, hP⟩, hK, hE, hT⟩ := h
  have hI0 := hI
  obtain ⟨iX, ⟨iM0, iM1, iM2, iM3⟩, ⟨iY0, iY1, iY2, iY3⟩⟩ := hI
  refine ⟨_, _, _, x_rule l dC dI _ kA vA (a 0) (a 1) (v 0 1) (a 2) (a 4) (a 6) (v 0 5) (v 0 6) (a 19) (a 24) (a 29) (a 30) (a 31) (a 36) (a 58) (a 107) (a 110) (a 119) (a 120) (v 0 18) (k 1) (f 1) (a 5) (w 4 1) (v 4 2) (w 5 0) (v 5 1) (v 5 2) (v 5 3) (k 6) (q 6) (a 7) (a 9) (a 11) (a 13) (a 15) (a 17) (a 8) (v 7 1) (v 7 2) (k 8) (f 8) (a 10) (v 9 1) (v 9 2) (k 10) (f 10) (a 12) (v 11 1) (v 11 2) (k 12) (f 12) (a 14) (v 13 1) (v 13 2) (k 14) (f 14) (a 16) (v 15 1) (v 15 2) (k 16) (f 16) (a 18) (v 17 1) (v 17 2) (k 18) (f 18) (xQ_at hQ (i := 0) (t := (6, 0, 7)) rfl) (xQ_at hQ (i := 1) (t := (6, 1, 9)) rfl) (xQ_at hQ (i := 2) (t := (6, 2, 11)) rfl) (xQ_at hQ (i := 3) (t := (6, 3, 13)) rfl) (xQ_at hQ (i := 4) (t := (6, 4, 15)) rfl) (xQ_at hQ (i := 5) (t := (6, 5, 17)) rfl), ⟨rfl, rfl, hP.sub (ws' := [((a 0), .inr (11, [.ref (a 1), .int (v 0 1), .ref (a 2), .ref (a 4), .ref (a 6), .int (v 0 5), .int (v 0 6), .ref (a 19), .ref (a 24), .ref (a 29), .ref (a 30), .ref (a 31), .ref (a 36), .ref (a 58), .ref (a 107), .ref (a 110), .ref (a 119), .ref (a 120), .int (v 0 18)])), ((a 1), .inl ((k 1), 400, .inl (f 1))), ((a 4), .inr (10, [.ref (a 5), (w 4 1), .int (v 4 2)])), ((a 5), .inr (7, [(w 5 0), .int (v 5 1), .int (v 5 2), .int (v 5 3)])), ((a 6), .inl ((k 6), 6, .inr (.inr (.inr (.inr (q 6)))))), ((a 7), .inr (9, [.ref (a 8), .int (v 7 1), .int (v 7 2)])), ((a 8), .inl ((k 8), 400, .inl (f 8))), ((a 9), .inr (9, [.ref (a 10), .int (v 9 1), .int (v 9 2)])), ((a 10), .inl ((k 10), 400, .inl (f 10))), ((a 11), .inr (9, [.ref (a 12), .int (v 11 1), .int (v 11 2)])), ((a 12), .inl ((k 12), 400, .inl (f 12))), ((a 13), .inr (9, [.ref (a 14), .int (v 13 1), .int (v 13 2)])), ((a 14), .inl ((k 14), 400, .inl (f 14))), ((a 15), .inr (9, [.ref (a 16), .int (v 15 1), .int (v 15 2)])), ((a 16), .inl ((k 16), 400, .inl (f 16))), ((a 17), .inr (9, [.ref (a 18), .int (v 17 1), .int (v 17 2)])), ((a 18), .inl ((k 18), 400, .inl (f 18)))]) [0, 1, 4, 5, 6, 7, 8, 9, 10, 11, 12, 13, 14, 15, 16, 17, 18] rfl, hK.sub (tys' := [((k 1), .int), ((k 6), .object RX9), ((k 8), .int), ((k 10), .int), ((k 12), .int), ((k 14), .int), ((k 16), .int), ((k 18), .int)]) [0, 1, 2, 3, 4, 5, 6, 7] rfl, (hN.D xW_L).sub (ws := (xW a k q v z w f g)) (ws' := [((a 0), .inr (11, [.ref (a 1), .int (v 0 1), .ref (a 2), .ref (a 4), .ref (a 6), .int (v 0 5), .int (v 0 6), .ref (a 19), .ref (a 24), .ref (a 29), .ref (a 30), .ref (a 31), .ref (a 36), .ref (a 58), .ref (a 107), .ref (a 110), .ref (a 119), .ref (a 120), .int (v 0 18)])), ((a 1), .inl ((k 1), 400, .inl (f 1))), ((a 4), .inr (10, [.ref (a 5), (w 4 1), .int (v 4 2)])), ((a 5), .inr (7, [(w 5 0), .int (v 5 1), .int (v 5 2), .int (v 5 3)])), ((a 6), .inl ((k 6), 6, .inr (.inr (.inr (.inr (q 6)))))), ((a 7), .inr (9, [.ref (a 8), .int (v 7 1), .int (v 7 2)])), ((a 8), .inl ((k 8), 400, .inl (f 8))), ((a 9), .inr (9, [.ref (a 10), .int (v 9 1), .int (v 9 2)])), ((a 10), .inl ((k 10), 400, .inl (f 10))), ((a 11), .inr (9, [.ref (a 12), .int (v 11 1), .int (v 11 2)])), ((a 12), .inl ((k 12), 400, .inl (f 12))), ((a 13), .inr (9, [.ref (a 14), .int (v 13 1), .int (v 13 2)])), ((a 14), .inl ((k 14), 400, .inl (f 14))), ((a 15), .inr (9, [.ref (a 16), .int (v 15 1), .int (v 15 2)])), ((a 16), .inl ((k 16), 400, .inl (f 16))), ((a 17), .inr (9, [.ref (a 18), .int (v 17 1), .int (v 17 2)])), ((a 18), .inl ((k 18), 400, .inl (f 18)))]) [0, 1, 4, 5, 6, 7, 8, 9, 10, 11, 12, 13, 14, 15, 16, 17, 18] (by decide) rfl, hE, hT.narrow (fun p hp => lift_in (ws := (xW a k q v z w f g)) [0, 1, 4, 5, 6, 7, 8, 9, 10, 11, 12, 13, 14, 15, 16, 17, 18] rfl xW_L hp)⟩, fun o t hq => ?_, fun p hp => lift_in (ws := (xW a k q v z w f g)) [0, 1, 4, 5, 6, 7, 8, 9, 10, 11, 12, 13, 14, 15, 16, 17, 18] rfl xW_L hp⟩
  obtain ⟨⟨r, u, ho, hw, v_44, v_46, f_47, f_48, f_49, f_50, f_51, f_52, yy_45, hP1, -, -⟩, hz, hk⟩ := hq
  refine ⟨⟨r, (), ho, trivial, ?_⟩, hz, fun p h1 h2 => hk p h1 (fun h => h2 (lift_in (ws := (xW a k q v z w f g)) [0, 1, 4, 5, 6, 7, 8, 9, 10, 11, 12, 13, 14, 15, 16, 17, 18] rfl xW_L h))⟩
  have s0 := xs_0 (rfl : (xW a k q v z w f g) = _) (yy_45 16) (yy_45 17) (v 0 6) (v 0 18)
  have s1 := xs_1 s0 (f 1)
  have s2 := xs_4 s1 v_44 (yy_45 0)
  have s3 := xs_5 s2 v_46 (yy_45 1) (yy_45 2) (yy_45 3)
  have s4 := xs_6 s3 
  have s5 := xs_7 s4 (yy_45 4) (yy_45 5)
  have s6 := xs_8 s5 f_47
  have s7 := xs_9 s6 (yy_45 6) (yy_45 7)
  have s8 := xs_10 s7 f_48
  have s9 := xs_11 s8 (yy_45 8) (yy_45 9)
  have s10 := xs_12 s9 f_49
  have s11 := xs_13 s10 (yy_45 10) (yy_45 11)
  have s12 := xs_14 s11 f_50
  have s13 := xs_15 s12 (yy_45 12) (yy_45 13)
  have s14 := xs_16 s13 f_51
  have s15 := xs_17 s14 (yy_45 14) (yy_45 15)
  have s16 := xs_18 s15 f_52
  refine ⟨_, _, _, _, _, ?_, rp_P hP hN xW_L [0, 1, 4, 5, 6, 7, 8, 9, 10, 11, 12, 13, 14, 15, 16, 17, 18] rfl hk hP1 rfl (rp_c (rp_c (rp_c (rp_c (rp_c (rp_c (rp_c (rp_c (rp_c (rp_c (rp_c (rp_c (rp_c (rp_c (rp_c (rp_c (rp_c (rp_n s16))))))))))))))))))⟩
  exact hI0

set_option maxHeartbeats 4000000 in
set_option maxRecDepth 100000 in
theorem X_force (l : Launch) (dC : Nat → ClassId) (dI : Nat → Nat → Nat) (sz : Nat) (kA vA : Nat → Nat) (a : Nat → Nat) (k : Nat → ClassId) (q : Nat → Nat → Option Nat) (hQ : xQ a q) (hN : AD (fun _ => True) (xL a)) (x : Int32) (md ix : Nat → Int32) (hM : ∀ j : Nat, j < 4 → md j = 0 ∨ md j = 1) (x0 : Int32) : Met l yX11_force (.code yX11_force cX11_force 3 (some .int) :: wsA) ({ frames := 0, cells := 0, slots := 0, locals := 0 }) (va_Pc [.ref (a 0), .int x0] (xS dC dI sz kA vA a k q x md ix)) (va_Qi (fun (r : Int32) (_ : Unit) => True) (fun _ t => xP dC dI a k q x md ix t.heap) (inL (xL a) sz)) 0 0 (inL (xL a) sz) := by
  refine Met.lift (fun ar U h => ?_)
  obtain ⟨rfl, rfl, ⟨v, z, w, f, g, hI, hP⟩, hK, hE, hT⟩ := h
  have hI0 := hI
  obtain ⟨iX, ⟨iM0, iM1, iM2, iM3⟩, ⟨iY0, iY1, iY2, iY3⟩⟩ := hI
  refine ⟨_, _, _, x_force l dC dI _ (a 0) (a 1) (v 0 1) (a 2) (a 4) (a 6) (v 0 5) (v 0 6) (a 19) (a 24) (a 29) (a 30) (a 31) (a 36) (a 58) (a 107) (a 110) (a 119) (a 120) (v 0 18) x0 , ⟨rfl, rfl, hP.sub (ws' := [((a 0), .inr (11, [.ref (a 1), .int (v 0 1), .ref (a 2), .ref (a 4), .ref (a 6), .int (v 0 5), .int (v 0 6), .ref (a 19), .ref (a 24), .ref (a 29), .ref (a 30), .ref (a 31), .ref (a 36), .ref (a 58), .ref (a 107), .ref (a 110), .ref (a 119), .ref (a 120), .int (v 0 18)]))]) [0] rfl, hK.sub (tys' := []) [] rfl, (hN.D xW_L).sub (ws := (xW a k q v z w f g)) (ws' := [((a 0), .inr (11, [.ref (a 1), .int (v 0 1), .ref (a 2), .ref (a 4), .ref (a 6), .int (v 0 5), .int (v 0 6), .ref (a 19), .ref (a 24), .ref (a 29), .ref (a 30), .ref (a 31), .ref (a 36), .ref (a 58), .ref (a 107), .ref (a 110), .ref (a 119), .ref (a 120), .int (v 0 18)]))]) [0] (by decide) rfl, hE⟩, fun o t hq => ?_, fun p hp => lift_in (ws := (xW a k q v z w f g)) [0] rfl xW_L hp⟩
  obtain ⟨⟨r, u, ho, hw, yy_3, hP1, -, -⟩, hz, hk⟩ := hq
  refine ⟨⟨r, (), ho, trivial, ?_⟩, hz, fun p h1 h2 => hk p h1 (fun h => h2 (lift_in (ws := (xW a k q v z w f g)) [0] rfl xW_L h))⟩
  have s0 := xs_0 (rfl : (xW a k q v z w f g) = _) (v 0 1) (v 0 5) (yy_3 0) (v 0 18)
  refine ⟨_, _, _, _, _, ?_, rp_P hP hN xW_L [0] rfl hk hP1 rfl (rp_c (rp_n s0))⟩
  exact hI0

set_option maxHeartbeats 4000000 in
set_option maxRecDepth 100000 in
theorem X_dish (l : Launch) (dC : Nat → ClassId) (dI : Nat → Nat → Nat) (sz : Nat) (kA vA : Nat → Nat) (a : Nat → Nat) (k : Nat → ClassId) (q : Nat → Nat → Option Nat) (hQ : xQ a q) (hN : AD (fun _ => True) (xL a)) (x : Int32) (md ix : Nat → Int32) (hM : ∀ j : Nat, j < 4 → md j = 0 ∨ md j = 1) (x0 : Int32) (x1 : Int32) : Met l yX11_dish (.code yX11_dish cX11_dish 3 (some .int) :: wsA) ({ frames := 2, cells := 0, slots := 0, locals := 43 }) (va_Pc [.ref (a 0), .int x0, .int x1] (xS dC dI sz kA vA a k q x md ix)) (va_Qi (fun (r : Int32) (_ : Unit) => True) (fun _ t => xP dC dI a k q x md ix t.heap) (inL (xL a) sz)) 0 0 (inL (xL a) sz) := by
  refine Met.lift (fun ar U h => ?_)
  obtain ⟨rfl, rfl, ⟨v, z, w, f, g, hI, hP⟩, hK, hE, hT⟩ := h
  have hI0 := hI
  obtain ⟨iX, ⟨iM0, iM1, iM2, iM3⟩, ⟨iY0, iY1, iY2, iY3⟩⟩ := hI
  refine ⟨_, _, _, x_dish l dC dI _ (a 0) (a 1) (v 0 1) (a 2) (a 4) (a 6) (v 0 5) (v 0 6) (a 19) (a 24) (a 29) (a 30) (a 31) (a 36) (a 58) (a 107) (a 110) (a 119) (a 120) (v 0 18) (v 19 0) (v 19 1) (v 19 2) (a 20) (a 21) (a 22) (a 23) (k 20) (f 20) (k 21) (f 21) (v 29 0) (v 29 1) (v 29 2) (v 29 3) (v 29 4) (z 29 5) x0 x1 , ⟨rfl, rfl, hP.sub (ws' := [((a 0), .inr (11, [.ref (a 1), .int (v 0 1), .ref (a 2), .ref (a 4), .ref (a 6), .int (v 0 5), .int (v 0 6), .ref (a 19), .ref (a 24), .ref (a 29), .ref (a 30), .ref (a 31), .ref (a 36), .ref (a 58), .ref (a 107), .ref (a 110), .ref (a 119), .ref (a 120), .int (v 0 18)])), ((a 19), .inr (1, [.int (v 19 0), .int (v 19 1), .int (v 19 2), .ref (a 20), .ref (a 21), .ref (a 22), .ref (a 23)])), ((a 20), .inl ((k 20), 8, .inl (f 20))), ((a 21), .inl ((k 21), 8, .inl (f 21))), ((a 29), .inr (3, [.int (v 29 0), .int (v 29 1), .int (v 29 2), .int (v 29 3), .int (v 29 4), .long (z 29 5)]))]) [0, 19, 20, 21, 29] rfl, hK.sub (tys' := [((k 20), .int), ((k 21), .int)]) [8, 9] rfl, (hN.D xW_L).sub (ws := (xW a k q v z w f g)) (ws' := [((a 0), .inr (11, [.ref (a 1), .int (v 0 1), .ref (a 2), .ref (a 4), .ref (a 6), .int (v 0 5), .int (v 0 6), .ref (a 19), .ref (a 24), .ref (a 29), .ref (a 30), .ref (a 31), .ref (a 36), .ref (a 58), .ref (a 107), .ref (a 110), .ref (a 119), .ref (a 120), .int (v 0 18)])), ((a 19), .inr (1, [.int (v 19 0), .int (v 19 1), .int (v 19 2), .ref (a 20), .ref (a 21), .ref (a 22), .ref (a 23)])), ((a 20), .inl ((k 20), 8, .inl (f 20))), ((a 21), .inl ((k 21), 8, .inl (f 21))), ((a 29), .inr (3, [.int (v 29 0), .int (v 29 1), .int (v 29 2), .int (v 29 3), .int (v 29 4), .long (z 29 5)]))]) [0, 19, 20, 21, 29] (by decide) rfl, hE⟩, fun o t hq => ?_, fun p hp => lift_in (ws := (xW a k q v z w f g)) [0, 19, 20, 21, 29] rfl xW_L hp⟩
  obtain ⟨⟨r, u, ho, hw, hP1, -, -⟩, hz, hk⟩ := hq
  refine ⟨⟨r, (), ho, trivial, ?_⟩, hz, fun p h1 h2 => hk p h1 (fun h => h2 (lift_in (ws := (xW a k q v z w f g)) [0, 19, 20, 21, 29] rfl xW_L h))⟩
  have s0 := xs_0 (rfl : (xW a k q v z w f g) = _) (v 0 1) (v 0 5) (v 0 6) (v 0 18)
  have s1 := xs_19 s0 (v 19 0) (v 19 1) (v 19 2)
  have s2 := xs_20 s1 (f 20)
  have s3 := xs_21 s2 (f 21)
  have s4 := xs_29 s3 (v 29 0) (v 29 1) (v 29 2) (v 29 3) (v 29 4) (z 29 5)
  refine ⟨_, _, _, _, _, ?_, rp_P hP hN xW_L [0, 19, 20, 21, 29] rfl hk hP1 rfl (rp_c (rp_c (rp_c (rp_c (rp_c (rp_n s4))))))⟩
  exact hI0

set_option maxHeartbeats 4000000 in
set_option maxRecDepth 100000 in
theorem X_guest (l : Launch) (dC : Nat → ClassId) (dI : Nat → Nat → Nat) (sz : Nat) (kA vA : Nat → Nat) (a : Nat → Nat) (k : Nat → ClassId) (q : Nat → Nat → Option Nat) (hQ : xQ a q) (hN : AD (fun _ => True) (xL a)) (x : Int32) (md ix : Nat → Int32) (hM : ∀ j : Nat, j < 4 → md j = 0 ∨ md j = 1) (x0 : Int32) (x1 : Int32) : Met l yX11_guest (.code yX11_guest cX11_guest 3 (some .int) :: wsA) ({ frames := 1, cells := 0, slots := 0, locals := 22 }) (va_Pc [.ref (a 0), .int x0, .int x1] (xS dC dI sz kA vA a k q x md ix)) (va_Qi (fun (r : Int32) (_ : Unit) => True) (fun _ t => xP dC dI a k q x md ix t.heap) (inL (xL a) sz)) 0 0 (inL (xL a) sz) := by
  refine Met.lift (fun ar U h => ?_)
  obtain ⟨rfl, rfl, ⟨v, z, w, f, g, hI, hP⟩, hK, hE, hT⟩ := h
  have hI0 := hI
  obtain ⟨iX, ⟨iM0, iM1, iM2, iM3⟩, ⟨iY0, iY1, iY2, iY3⟩⟩ := hI
  refine ⟨_, _, _, x_guest l dC dI _ (a 0) (a 1) (v 0 1) (a 2) (a 4) (a 6) (v 0 5) (v 0 6) (a 19) (a 24) (a 29) (a 30) (a 31) (a 36) (a 58) (a 107) (a 110) (a 119) (a 120) (v 0 18) (v 19 0) (v 19 1) (v 19 2) (a 20) (a 21) (a 22) (a 23) (k 22) (f 22) (v 29 0) (v 29 1) (v 29 2) (v 29 3) (v 29 4) (z 29 5) x0 x1 , ⟨rfl, rfl, hP.sub (ws' := [((a 0), .inr (11, [.ref (a 1), .int (v 0 1), .ref (a 2), .ref (a 4), .ref (a 6), .int (v 0 5), .int (v 0 6), .ref (a 19), .ref (a 24), .ref (a 29), .ref (a 30), .ref (a 31), .ref (a 36), .ref (a 58), .ref (a 107), .ref (a 110), .ref (a 119), .ref (a 120), .int (v 0 18)])), ((a 19), .inr (1, [.int (v 19 0), .int (v 19 1), .int (v 19 2), .ref (a 20), .ref (a 21), .ref (a 22), .ref (a 23)])), ((a 22), .inl ((k 22), 8, .inl (f 22))), ((a 29), .inr (3, [.int (v 29 0), .int (v 29 1), .int (v 29 2), .int (v 29 3), .int (v 29 4), .long (z 29 5)]))]) [0, 19, 22, 29] rfl, hK.sub (tys' := [((k 22), .int)]) [10] rfl, (hN.D xW_L).sub (ws := (xW a k q v z w f g)) (ws' := [((a 0), .inr (11, [.ref (a 1), .int (v 0 1), .ref (a 2), .ref (a 4), .ref (a 6), .int (v 0 5), .int (v 0 6), .ref (a 19), .ref (a 24), .ref (a 29), .ref (a 30), .ref (a 31), .ref (a 36), .ref (a 58), .ref (a 107), .ref (a 110), .ref (a 119), .ref (a 120), .int (v 0 18)])), ((a 19), .inr (1, [.int (v 19 0), .int (v 19 1), .int (v 19 2), .ref (a 20), .ref (a 21), .ref (a 22), .ref (a 23)])), ((a 22), .inl ((k 22), 8, .inl (f 22))), ((a 29), .inr (3, [.int (v 29 0), .int (v 29 1), .int (v 29 2), .int (v 29 3), .int (v 29 4), .long (z 29 5)]))]) [0, 19, 22, 29] (by decide) rfl, hE⟩, fun o t hq => ?_, fun p hp => lift_in (ws := (xW a k q v z w f g)) [0, 19, 22, 29] rfl xW_L hp⟩
  obtain ⟨⟨r, u, ho, hw, hP1, -, -⟩, hz, hk⟩ := hq
  refine ⟨⟨r, (), ho, trivial, ?_⟩, hz, fun p h1 h2 => hk p h1 (fun h => h2 (lift_in (ws := (xW a k q v z w f g)) [0, 19, 22, 29] rfl xW_L h))⟩
  have s0 := xs_0 (rfl : (xW a k q v z w f g) = _) (v 0 1) (v 0 5) (v 0 6) (v 0 18)
  have s1 := xs_19 s0 (v 19 0) (v 19 1) (v 19 2)
  have s2 := xs_22 s1 (f 22)
  have s3 := xs_29 s2 (v 29 0) (v 29 1) (v 29 2) (v 29 3) (v 29 4) (z 29 5)
  refine ⟨_, _, _, _, _, ?_, rp_P hP hN xW_L [0, 19, 22, 29] rfl hk hP1 rfl (rp_c (rp_c (rp_c (rp_c (rp_n s3)))))⟩
  exact hI0

set_option maxHeartbeats 4000000 in
set_option maxRecDepth 100000 in
theorem X_clashes (l : Launch) (dC : Nat → ClassId) (dI : Nat → Nat → Nat) (sz : Nat) (kA vA : Nat → Nat) (a : Nat → Nat) (k : Nat → ClassId) (q : Nat → Nat → Option Nat) (hQ : xQ a q) (hN : AD (fun _ => True) (xL a)) (x : Int32) (md ix : Nat → Int32) (hM : ∀ j : Nat, j < 4 → md j = 0 ∨ md j = 1) (x0 : Int32) : Met l yX11_clashes (.code yX11_clashes cX11_clashes 2 (some .int) :: wsA) ({ frames := 1, cells := 0, slots := 0, locals := 20 }) (va_Pc [.ref (a 0), .int x0] (xS dC dI sz kA vA a k q x md ix)) (va_Qi (fun (r : Int32) (_ : Unit) => True) (fun _ t => xP dC dI a k q x md ix t.heap) (inL (xL a) sz)) 0 0 (inL (xL a) sz) := by
  refine Met.lift (fun ar U h => ?_)
  obtain ⟨rfl, rfl, ⟨v, z, w, f, g, hI, hP⟩, hK, hE, hT⟩ := h
  have hI0 := hI
  obtain ⟨iX, ⟨iM0, iM1, iM2, iM3⟩, ⟨iY0, iY1, iY2, iY3⟩⟩ := hI
  refine ⟨_, _, _, x_clashes l dC dI _ (a 0) (a 1) (v 0 1) (a 2) (a 4) (a 6) (v 0 5) (v 0 6) (a 19) (a 24) (a 29) (a 30) (a 31) (a 36) (a 58) (a 107) (a 110) (a 119) (a 120) (v 0 18) (v 19 0) (v 19 1) (v 19 2) (a 20) (a 21) (a 22) (a 23) (k 23) (f 23) x0 , ⟨rfl, rfl, hP.sub (ws' := [((a 0), .inr (11, [.ref (a 1), .int (v 0 1), .ref (a 2), .ref (a 4), .ref (a 6), .int (v 0 5), .int (v 0 6), .ref (a 19), .ref (a 24), .ref (a 29), .ref (a 30), .ref (a 31), .ref (a 36), .ref (a 58), .ref (a 107), .ref (a 110), .ref (a 119), .ref (a 120), .int (v 0 18)])), ((a 19), .inr (1, [.int (v 19 0), .int (v 19 1), .int (v 19 2), .ref (a 20), .ref (a 21), .ref (a 22), .ref (a 23)])), ((a 23), .inl ((k 23), 8, .inl (f 23)))]) [0, 19, 23] rfl, hK.sub (tys' := [((k 23), .int)]) [11] rfl, (hN.D xW_L).sub (ws := (xW a k q v z w f g)) (ws' := [((a 0), .inr (11, [.ref (a 1), .int (v 0 1), .ref (a 2), .ref (a 4), .ref (a 6), .int (v 0 5), .int (v 0 6), .ref (a 19), .ref (a 24), .ref (a 29), .ref (a 30), .ref (a 31), .ref (a 36), .ref (a 58), .ref (a 107), .ref (a 110), .ref (a 119), .ref (a 120), .int (v 0 18)])), ((a 19), .inr (1, [.int (v 19 0), .int (v 19 1), .int (v 19 2), .ref (a 20), .ref (a 21), .ref (a 22), .ref (a 23)])), ((a 23), .inl ((k 23), 8, .inl (f 23)))]) [0, 19, 23] (by decide) rfl, hE⟩, fun o t hq => ?_, fun p hp => lift_in (ws := (xW a k q v z w f g)) [0, 19, 23] rfl xW_L hp⟩
  obtain ⟨⟨r, u, ho, hw, hP1, -, -⟩, hz, hk⟩ := hq
  refine ⟨⟨r, (), ho, trivial, ?_⟩, hz, fun p h1 h2 => hk p h1 (fun h => h2 (lift_in (ws := (xW a k q v z w f g)) [0, 19, 23] rfl xW_L h))⟩
  have s0 := xs_0 (rfl : (xW a k q v z w f g) = _) (v 0 1) (v 0 5) (v 0 6) (v 0 18)
  have s1 := xs_19 s0 (v 19 0) (v 19 1) (v 19 2)
  have s2 := xs_23 s1 (f 23)
  refine ⟨_, _, _, _, _, ?_, rp_P hP hN xW_L [0, 19, 23] rfl hk hP1 rfl (rp_c (rp_c (rp_c (rp_n s2))))⟩
  exact hI0

set_option maxHeartbeats 4000000 in
set_option maxRecDepth 100000 in
theorem X_throat (l : Launch) (dC : Nat → ClassId) (dI : Nat → Nat → Nat) (sz : Nat) (kA vA : Nat → Nat) (a : Nat → Nat) (k : Nat → ClassId) (q : Nat → Nat → Option Nat) (hQ : xQ a q) (hN : AD (fun _ => True) (xL a)) (x : Int32) (md ix : Nat → Int32) (hM : ∀ j : Nat, j < 4 → md j = 0 ∨ md j = 1) (x0 : Int32) : Met l yX11_throat (.code yX11_throat cX11_throat 2 (some .int) :: wsA) ({ frames := 1, cells := 0, slots := 0, locals := 21 }) (va_Pc [.ref (a 0), .int x0] (xS dC dI sz kA vA a k q x md ix)) (va_Qi (fun (r : Int32) (_ : Unit) => True) (fun _ t => xP dC dI a k q x md ix t.heap) (inL (xL a) sz)) 0 0 (inL (xL a) sz) := by
  refine Met.lift (fun ar U h => ?_)
  obtain ⟨rfl, rfl, ⟨v, z, w, f, g, hI, hP⟩, hK, hE, hT⟩ := h
  have hI0 := hI
  obtain ⟨iX, ⟨iM0, iM1, iM2, iM3⟩, ⟨iY0, iY1, iY2, iY3⟩⟩ := hI
  refine ⟨_, _, _, x_throat l dC dI _ (a 0) (a 1) (v 0 1) (a 2) (a 4) (a 6) (v 0 5) (v 0 6) (a 19) (a 24) (a 29) (a 30) (a 31) (a 36) (a 58) (a 107) (a 110) (a 119) (a 120) (v 0 18) (v 19 0) (v 19 1) (v 19 2) (a 20) (a 21) (a 22) (a 23) (v 29 0) (v 29 1) (v 29 2) (v 29 3) (v 29 4) (z 29 5) x0 , ⟨rfl, rfl, hP.sub (ws' := [((a 0), .inr (11, [.ref (a 1), .int (v 0 1), .ref (a 2), .ref (a 4), .ref (a 6), .int (v 0 5), .int (v 0 6), .ref (a 19), .ref (a 24), .ref (a 29), .ref (a 30), .ref (a 31), .ref (a 36), .ref (a 58), .ref (a 107), .ref (a 110), .ref (a 119), .ref (a 120), .int (v 0 18)])), ((a 19), .inr (1, [.int (v 19 0), .int (v 19 1), .int (v 19 2), .ref (a 20), .ref (a 21), .ref (a 22), .ref (a 23)])), ((a 29), .inr (3, [.int (v 29 0), .int (v 29 1), .int (v 29 2), .int (v 29 3), .int (v 29 4), .long (z 29 5)]))]) [0, 19, 29] rfl, hK.sub (tys' := []) [] rfl, (hN.D xW_L).sub (ws := (xW a k q v z w f g)) (ws' := [((a 0), .inr (11, [.ref (a 1), .int (v 0 1), .ref (a 2), .ref (a 4), .ref (a 6), .int (v 0 5), .int (v 0 6), .ref (a 19), .ref (a 24), .ref (a 29), .ref (a 30), .ref (a 31), .ref (a 36), .ref (a 58), .ref (a 107), .ref (a 110), .ref (a 119), .ref (a 120), .int (v 0 18)])), ((a 19), .inr (1, [.int (v 19 0), .int (v 19 1), .int (v 19 2), .ref (a 20), .ref (a 21), .ref (a 22), .ref (a 23)])), ((a 29), .inr (3, [.int (v 29 0), .int (v 29 1), .int (v 29 2), .int (v 29 3), .int (v 29 4), .long (z 29 5)]))]) [0, 19, 29] (by decide) rfl, hE⟩, fun o t hq => ?_, fun p hp => lift_in (ws := (xW a k q v z w f g)) [0, 19, 29] rfl xW_L hp⟩
  obtain ⟨⟨r, u, ho, hw, hP1, -, -⟩, hz, hk⟩ := hq
  refine ⟨⟨r, (), ho, trivial, ?_⟩, hz, fun p h1 h2 => hk p h1 (fun h => h2 (lift_in (ws := (xW a k q v z w f g)) [0, 19, 29] rfl xW_L h))⟩
  have s0 := xs_0 (rfl : (xW a k q v z w f g) = _) (v 0 1) (v 0 5) (v 0 6) (v 0 18)
  have s1 := xs_19 s0 (v 19 0) (v 19 1) (v 19 2)
  have s2 := xs_29 s1 (v 29 0) (v 29 1) (v 29 2) (v 29 3) (v 29 4) (z 29 5)
  refine ⟨_, _, _, _, _, ?_, rp_P hP hN xW_L [0, 19, 29] rfl hk hP1 rfl (rp_c (rp_c (rp_c (rp_n s2))))⟩
  exact hI0
