
set_option maxHeartbeats 4000000 in
set_option maxRecDepth 100000 in
theorem X_leftOut (l : Launch) (dC : Nat → ClassId) (dI : Nat → Nat → Nat) (sz : Nat) (kA vA : Nat → Nat) (a : Nat → Nat) (k : Nat → ClassId) (q : Nat → Nat → Option Nat) (hQ : xQ a q) (hN : AD (fun _ => True) (xL a)) (x : Int32) (md ix : Nat → Int32) (hM : ∀ j : Nat, j < 4 → md j = 0 ∨ md j = 1) (x0 : Int32) (x1 : Int32) : Met l yX11_leftOut (.code yX11_leftOut cX11_leftOut 9 (some .int) :: wsA) ({ frames := 6, cells := 0, slots := 0, locals := 139 }) (va_Pc [.ref (a 0), .int x0, .int x1] (xS dC dI sz kA vA a k q x md ix)) (va_Qi (fun (r : Int32) (_ : Unit) => True) (fun _ t => xP dC dI a k q x md ix t.heap) (inL (xL a) sz)) 0 0 (inL (xL a) sz) := by
  refine Met.lift (fun ar U h => ?_)
  obtain ⟨rfl, rfl, ⟨v, z, w, f, g, hI, hP⟩, hK, hE, hT⟩ := h
  have hI0 := hI
  obtain ⟨iX, ⟨iM0, iM1, iM2, iM3⟩, ⟨iY0, iY1, iY2, iY3⟩⟩ := hI
  refine ⟨_, _, _, x_leftOut l dC dI _ (a 0) (a 1) (v 0 1) (a 2) (a 4) (a 6) (v 0 5) (v 0 6) (a 19) (a 24) (a 29) (a 30) (a 31) (a 36) (a 58) (a 107) (a 110) (a 119) (a 120) (v 0 18) (k 6) (q 6) (a 7) (a 9) (a 11) (a 13) (a 15) (a 17) (a 8) (v 7 1) (v 7 2) (k 8) (f 8) (a 10) (v 9 1) (v 9 2) (k 10) (f 10) (a 12) (v 11 1) (v 11 2) (k 12) (f 12) (a 14) (v 13 1) (v 13 2) (k 14) (f 14) (a 16) (v 15 1) (v 15 2) (k 16) (f 16) (a 18) (v 17 1) (v 17 2) (k 18) (f 18) (v 19 0) (v 19 1) (v 19 2) (a 20) (a 21) (a 22) (a 23) (k 20) (f 20) (k 21) (f 21) (k 22) (f 22) (k 23) (f 23) (v 29 0) (v 29 1) (v 29 2) (v 29 3) (v 29 4) (z 29 5) (v 30 0) (v 30 1) (v 30 2) (v 30 3) (v 30 4) (z 30 5) (w 107 0) (w 107 1) (a 108) (a 109) (v 107 4) (v 107 5) (v 107 6) (v 107 7) (k 108) (g 108) (k 109) (g 109) x0 x1 (xQ_at hQ (i := 0) (t := (6, 0, 7)) rfl) (xQ_at hQ (i := 1) (t := (6, 1, 9)) rfl) (xQ_at hQ (i := 2) (t := (6, 2, 11)) rfl) (xQ_at hQ (i := 3) (t := (6, 3, 13)) rfl) (xQ_at hQ (i := 4) (t := (6, 4, 15)) rfl) (xQ_at hQ (i := 5) (t := (6, 5, 17)) rfl), ⟨rfl, rfl, hP.sub (ws' := [((a 0), .inr (11, [.ref (a 1), .int (v 0 1), .ref (a 2), .ref (a 4), .ref (a 6), .int (v 0 5), .int (v 0 6), .ref (a 19), .ref (a 24), .ref (a 29), .ref (a 30), .ref (a 31), .ref (a 36), .ref (a 58), .ref (a 107), .ref (a 110), .ref (a 119), .ref (a 120), .int (v 0 18)])), ((a 6), .inl ((k 6), 6, .inr (.inr (.inr (.inr (q 6)))))), ((a 7), .inr (9, [.ref (a 8), .int (v 7 1), .int (v 7 2)])), ((a 8), .inl ((k 8), 400, .inl (f 8))), ((a 9), .inr (9, [.ref (a 10), .int (v 9 1), .int (v 9 2)])), ((a 10), .inl ((k 10), 400, .inl (f 10))), ((a 11), .inr (9, [.ref (a 12), .int (v 11 1), .int (v 11 2)])), ((a 12), .inl ((k 12), 400, .inl (f 12))), ((a 13), .inr (9, [.ref (a 14), .int (v 13 1), .int (v 13 2)])), ((a 14), .inl ((k 14), 400, .inl (f 14))), ((a 15), .inr (9, [.ref (a 16), .int (v 15 1), .int (v 15 2)])), ((a 16), .inl ((k 16), 400, .inl (f 16))), ((a 17), .inr (9, [.ref (a 18), .int (v 17 1), .int (v 17 2)])), ((a 18), .inl ((k 18), 400, .inl (f 18))), ((a 19), .inr (1, [.int (v 19 0), .int (v 19 1), .int (v 19 2), .ref (a 20), .ref (a 21), .ref (a 22), .ref (a 23)])), ((a 20), .inl ((k 20), 8, .inl (f 20))), ((a 21), .inl ((k 21), 8, .inl (f 21))), ((a 22), .inl ((k 22), 8, .inl (f 22))), ((a 23), .inl ((k 23), 8, .inl (f 23))), ((a 29), .inr (3, [.int (v 29 0), .int (v 29 1), .int (v 29 2), .int (v 29 3), .int (v 29 4), .long (z 29 5)])), ((a 30), .inr (3, [.int (v 30 0), .int (v 30 1), .int (v 30 2), .int (v 30 3), .int (v 30 4), .long (z 30 5)])), ((a 107), .inr (0, [(w 107 0), (w 107 1), .ref (a 108), .ref (a 109), .int (v 107 4), .int (v 107 5), .int (v 107 6), .int (v 107 7)])), ((a 108), .inl ((k 108), 10, .inr (.inl (g 108)))), ((a 109), .inl ((k 109), 32, .inr (.inl (g 109))))]) [0, 6, 7, 8, 9, 10, 11, 12, 13, 14, 15, 16, 17, 18, 19, 20, 21, 22, 23, 29, 30, 107, 108, 109] rfl, hK.sub (tys' := [((k 6), .object RX9), ((k 8), .int), ((k 10), .int), ((k 12), .int), ((k 14), .int), ((k 16), .int), ((k 18), .int), ((k 20), .int), ((k 21), .int), ((k 22), .int), ((k 23), .int), ((k 108), .long), ((k 109), .long)]) [1, 2, 3, 4, 5, 6, 7, 8, 9, 10, 11, 54, 55] rfl, (hN.D xW_L).sub (ws := (xW a k q v z w f g)) (ws' := [((a 0), .inr (11, [.ref (a 1), .int (v 0 1), .ref (a 2), .ref (a 4), .ref (a 6), .int (v 0 5), .int (v 0 6), .ref (a 19), .ref (a 24), .ref (a 29), .ref (a 30), .ref (a 31), .ref (a 36), .ref (a 58), .ref (a 107), .ref (a 110), .ref (a 119), .ref (a 120), .int (v 0 18)])), ((a 6), .inl ((k 6), 6, .inr (.inr (.inr (.inr (q 6)))))), ((a 7), .inr (9, [.ref (a 8), .int (v 7 1), .int (v 7 2)])), ((a 8), .inl ((k 8), 400, .inl (f 8))), ((a 9), .inr (9, [.ref (a 10), .int (v 9 1), .int (v 9 2)])), ((a 10), .inl ((k 10), 400, .inl (f 10))), ((a 11), .inr (9, [.ref (a 12), .int (v 11 1), .int (v 11 2)])), ((a 12), .inl ((k 12), 400, .inl (f 12))), ((a 13), .inr (9, [.ref (a 14), .int (v 13 1), .int (v 13 2)])), ((a 14), .inl ((k 14), 400, .inl (f 14))), ((a 15), .inr (9, [.ref (a 16), .int (v 15 1), .int (v 15 2)])), ((a 16), .inl ((k 16), 400, .inl (f 16))), ((a 17), .inr (9, [.ref (a 18), .int (v 17 1), .int (v 17 2)])), ((a 18), .inl ((k 18), 400, .inl (f 18))), ((a 19), .inr (1, [.int (v 19 0), .int (v 19 1), .int (v 19 2), .ref (a 20), .ref (a 21), .ref (a 22), .ref (a 23)])), ((a 20), .inl ((k 20), 8, .inl (f 20))), ((a 21), .inl ((k 21), 8, .inl (f 21))), ((a 22), .inl ((k 22), 8, .inl (f 22))), ((a 23), .inl ((k 23), 8, .inl (f 23))), ((a 29), .inr (3, [.int (v 29 0), .int (v 29 1), .int (v 29 2), .int (v 29 3), .int (v 29 4), .long (z 29 5)])), ((a 30), .inr (3, [.int (v 30 0), .int (v 30 1), .int (v 30 2), .int (v 30 3), .int (v 30 4), .long (z 30 5)])), ((a 107), .inr (0, [(w 107 0), (w 107 1), .ref (a 108), .ref (a 109), .int (v 107 4), .int (v 107 5), .int (v 107 6), .int (v 107 7)])), ((a 108), .inl ((k 108), 10, .inr (.inl (g 108)))), ((a 109), .inl ((k 109), 32, .inr (.inl (g 109))))]) [0, 6, 7, 8, 9, 10, 11, 12, 13, 14, 15, 16, 17, 18, 19, 20, 21, 22, 23, 29, 30, 107, 108, 109] (by decide) rfl, hE⟩, fun o t hq => ?_, fun p hp => lift_in (ws := (xW a k q v z w f g)) [0, 6, 7, 8, 9, 10, 11, 12, 13, 14, 15, 16, 17, 18, 19, 20, 21, 22, 23, 29, 30, 107, 108, 109] rfl xW_L hp⟩
  obtain ⟨⟨r, u, ho, hw, v_251, v_252, f_253, f_254, yy_249, zz_250, hP1, -, -⟩, hz, hk⟩ := hq
  refine ⟨⟨r, (), ho, trivial, ?_⟩, hz, fun p h1 h2 => hk p h1 (fun h => h2 (lift_in (ws := (xW a k q v z w f g)) [0, 6, 7, 8, 9, 10, 11, 12, 13, 14, 15, 16, 17, 18, 19, 20, 21, 22, 23, 29, 30, 107, 108, 109] rfl xW_L h))⟩
  have s0 := xs_0 (rfl : (xW a k q v z w f g) = _) (v 0 1) (v 0 5) (v 0 6) (v 0 18)
  have s1 := xs_6 s0 
  have s2 := xs_7 s1 (v 7 1) (v 7 2)
  have s3 := xs_8 s2 (f 8)
  have s4 := xs_9 s3 (v 9 1) (v 9 2)
  have s5 := xs_10 s4 (f 10)
  have s6 := xs_11 s5 (v 11 1) (v 11 2)
  have s7 := xs_12 s6 (f 12)
  have s8 := xs_13 s7 (v 13 1) (v 13 2)
  have s9 := xs_14 s8 (f 14)
  have s10 := xs_15 s9 (v 15 1) (v 15 2)
  have s11 := xs_16 s10 (f 16)
  have s12 := xs_17 s11 (v 17 1) (v 17 2)
  have s13 := xs_18 s12 (f 18)
  have s14 := xs_19 s13 (v 19 0) (v 19 1) (v 19 2)
  have s15 := xs_20 s14 (f 20)
  have s16 := xs_21 s15 (f 21)
  have s17 := xs_22 s16 (f 22)
  have s18 := xs_23 s17 (f 23)
  have s19 := xs_29 s18 (v 29 0) (v 29 1) (v 29 2) (v 29 3) (v 29 4) (z 29 5)
  have s20 := xs_30 s19 (yy_249 0) (yy_249 1) (yy_249 2) (yy_249 3) (yy_249 4) (zz_250 0)
  have s21 := xs_107 s20 v_251 v_252 (yy_249 5) (yy_249 6) (yy_249 7) (yy_249 8)
  have s22 := xs_108 s21 f_253
  have s23 := xs_109 s22 f_254
  refine ⟨_, _, _, _, _, ?_, rp_P hP hN xW_L [0, 6, 7, 8, 9, 10, 11, 12, 13, 14, 15, 16, 17, 18, 19, 20, 21, 22, 23, 29, 30, 107, 108, 109] rfl hk hP1 rfl s23⟩
  exact hI0

set_option maxHeartbeats 4000000 in
set_option maxRecDepth 100000 in
theorem X_rests (l : Launch) (dC : Nat → ClassId) (dI : Nat → Nat → Nat) (sz : Nat) (kA vA : Nat → Nat) (a : Nat → Nat) (k : Nat → ClassId) (q : Nat → Nat → Option Nat) (hQ : xQ a q) (hN : AD (fun _ => True) (xL a)) (x : Int32) (md ix : Nat → Int32) (hM : ∀ j : Nat, j < 4 → md j = 0 ∨ md j = 1) (x0 : Int32) (x1 : Int32) (x2 : Int32) (x3 : Int32) : Met l yX11_rests (.code yX11_rests cX11_rests 8 (some .int) :: wsA) ({ frames := 7, cells := 0, slots := 0, locals := 163 }) (va_Pc [.ref (a 0), .int x0, .int x1, .int x2, .int x3] (xS dC dI sz kA vA a k q x md ix)) (va_Qi (fun (r : Int32) (_ : Unit) => True) (fun _ t => xP dC dI a k q x md ix t.heap) (inL (xL a) sz)) 0 0 (inL (xL a) sz) := by
  refine Met.lift (fun ar U h => ?_)
  obtain ⟨rfl, rfl, ⟨v, z, w, f, g, hI, hP⟩, hK, hE, hT⟩ := h
  have hI0 := hI
  obtain ⟨iX, ⟨iM0, iM1, iM2, iM3⟩, ⟨iY0, iY1, iY2, iY3⟩⟩ := hI
  refine ⟨_, _, _, x_rests l dC dI _ (a 0) (a 1) (v 0 1) (a 2) (a 4) (a 6) (v 0 5) (v 0 6) (a 19) (a 24) (a 29) (a 30) (a 31) (a 36) (a 58) (a 107) (a 110) (a 119) (a 120) (v 0 18) (k 6) (q 6) (a 7) (a 9) (a 11) (a 13) (a 15) (a 17) (a 8) (v 7 1) (v 7 2) (k 8) (f 8) (a 10) (v 9 1) (v 9 2) (k 10) (f 10) (a 12) (v 11 1) (v 11 2) (k 12) (f 12) (a 14) (v 13 1) (v 13 2) (k 14) (f 14) (a 16) (v 15 1) (v 15 2) (k 16) (f 16) (a 18) (v 17 1) (v 17 2) (k 18) (f 18) (v 19 0) (v 19 1) (v 19 2) (a 20) (a 21) (a 22) (a 23) (k 20) (f 20) (k 21) (f 21) (k 22) (f 22) (k 23) (f 23) (v 24 0) (v 24 1) (v 24 2) (a 25) (a 26) (a 27) (a 28) (k 25) (f 25) (k 26) (f 26) (k 27) (f 27) (k 28) (f 28) (v 29 0) (v 29 1) (v 29 2) (v 29 3) (v 29 4) (z 29 5) (v 30 0) (v 30 1) (v 30 2) (v 30 3) (v 30 4) (z 30 5) (w 107 0) (w 107 1) (a 108) (a 109) (v 107 4) (v 107 5) (v 107 6) (v 107 7) (k 108) (g 108) (k 109) (g 109) (k 119) (f 119) x0 x1 x2 x3 (xQ_at hQ (i := 0) (t := (6, 0, 7)) rfl) (xQ_at hQ (i := 1) (t := (6, 1, 9)) rfl) (xQ_at hQ (i := 2) (t := (6, 2, 11)) rfl) (xQ_at hQ (i := 3) (t := (6, 3, 13)) rfl) (xQ_at hQ (i := 4) (t := (6, 4, 15)) rfl) (xQ_at hQ (i := 5) (t := (6, 5, 17)) rfl), ⟨rfl, rfl, hP.sub (ws' := [((a 0), .inr (11, [.ref (a 1), .int (v 0 1), .ref (a 2), .ref (a 4), .ref (a 6), .int (v 0 5), .int (v 0 6), .ref (a 19), .ref (a 24), .ref (a 29), .ref (a 30), .ref (a 31), .ref (a 36), .ref (a 58), .ref (a 107), .ref (a 110), .ref (a 119), .ref (a 120), .int (v 0 18)])), ((a 6), .inl ((k 6), 6, .inr (.inr (.inr (.inr (q 6)))))), ((a 7), .inr (9, [.ref (a 8), .int (v 7 1), .int (v 7 2)])), ((a 8), .inl ((k 8), 400, .inl (f 8))), ((a 9), .inr (9, [.ref (a 10), .int (v 9 1), .int (v 9 2)])), ((a 10), .inl ((k 10), 400, .inl (f 10))), ((a 11), .inr (9, [.ref (a 12), .int (v 11 1), .int (v 11 2)])), ((a 12), .inl ((k 12), 400, .inl (f 12))), ((a 13), .inr (9, [.ref (a 14), .int (v 13 1), .int (v 13 2)])), ((a 14), .inl ((k 14), 400, .inl (f 14))), ((a 15), .inr (9, [.ref (a 16), .int (v 15 1), .int (v 15 2)])), ((a 16), .inl ((k 16), 400, .inl (f 16))), ((a 17), .inr (9, [.ref (a 18), .int (v 17 1), .int (v 17 2)])), ((a 18), .inl ((k 18), 400, .inl (f 18))), ((a 19), .inr (1, [.int (v 19 0), .int (v 19 1), .int (v 19 2), .ref (a 20), .ref (a 21), .ref (a 22), .ref (a 23)])), ((a 20), .inl ((k 20), 8, .inl (f 20))), ((a 21), .inl ((k 21), 8, .inl (f 21))), ((a 22), .inl ((k 22), 8, .inl (f 22))), ((a 23), .inl ((k 23), 8, .inl (f 23))), ((a 24), .inr (1, [.int (v 24 0), .int (v 24 1), .int (v 24 2), .ref (a 25), .ref (a 26), .ref (a 27), .ref (a 28)])), ((a 25), .inl ((k 25), 8, .inl (f 25))), ((a 26), .inl ((k 26), 8, .inl (f 26))), ((a 27), .inl ((k 27), 8, .inl (f 27))), ((a 28), .inl ((k 28), 8, .inl (f 28))), ((a 29), .inr (3, [.int (v 29 0), .int (v 29 1), .int (v 29 2), .int (v 29 3), .int (v 29 4), .long (z 29 5)])), ((a 30), .inr (3, [.int (v 30 0), .int (v 30 1), .int (v 30 2), .int (v 30 3), .int (v 30 4), .long (z 30 5)])), ((a 107), .inr (0, [(w 107 0), (w 107 1), .ref (a 108), .ref (a 109), .int (v 107 4), .int (v 107 5), .int (v 107 6), .int (v 107 7)])), ((a 108), .inl ((k 108), 10, .inr (.inl (g 108)))), ((a 109), .inl ((k 109), 32, .inr (.inl (g 109)))), ((a 119), .inl ((k 119), 50, .inl (f 119)))]) [0, 6, 7, 8, 9, 10, 11, 12, 13, 14, 15, 16, 17, 18, 19, 20, 21, 22, 23, 24, 25, 26, 27, 28, 29, 30, 107, 108, 109, 119] rfl, hK.sub (tys' := [((k 6), .object RX9), ((k 8), .int), ((k 10), .int), ((k 12), .int), ((k 14), .int), ((k 16), .int), ((k 18), .int), ((k 20), .int), ((k 21), .int), ((k 22), .int), ((k 23), .int), ((k 25), .int), ((k 26), .int), ((k 27), .int), ((k 28), .int), ((k 108), .long), ((k 109), .long), ((k 119), .int)]) [1, 2, 3, 4, 5, 6, 7, 8, 9, 10, 11, 12, 13, 14, 15, 54, 55, 59] rfl, (hN.D xW_L).sub (ws := (xW a k q v z w f g)) (ws' := [((a 0), .inr (11, [.ref (a 1), .int (v 0 1), .ref (a 2), .ref (a 4), .ref (a 6), .int (v 0 5), .int (v 0 6), .ref (a 19), .ref (a 24), .ref (a 29), .ref (a 30), .ref (a 31), .ref (a 36), .ref (a 58), .ref (a 107), .ref (a 110), .ref (a 119), .ref (a 120), .int (v 0 18)])), ((a 6), .inl ((k 6), 6, .inr (.inr (.inr (.inr (q 6)))))), ((a 7), .inr (9, [.ref (a 8), .int (v 7 1), .int (v 7 2)])), ((a 8), .inl ((k 8), 400, .inl (f 8))), ((a 9), .inr (9, [.ref (a 10), .int (v 9 1), .int (v 9 2)])), ((a 10), .inl ((k 10), 400, .inl (f 10))), ((a 11), .inr (9, [.ref (a 12), .int (v 11 1), .int (v 11 2)])), ((a 12), .inl ((k 12), 400, .inl (f 12))), ((a 13), .inr (9, [.ref (a 14), .int (v 13 1), .int (v 13 2)])), ((a 14), .inl ((k 14), 400, .inl (f 14))), ((a 15), .inr (9, [.ref (a 16), .int (v 15 1), .int (v 15 2)])), ((a 16), .inl ((k 16), 400, .inl (f 16))), ((a 17), .inr (9, [.ref (a 18), .int (v 17 1), .int (v 17 2)])), ((a 18), .inl ((k 18), 400, .inl (f 18))), ((a 19), .inr (1, [.int (v 19 0), .int (v 19 1), .int (v 19 2), .ref (a 20), .ref (a 21), .ref (a 22), .ref (a 23)])), ((a 20), .inl ((k 20), 8, .inl (f 20))), ((a 21), .inl ((k 21), 8, .inl (f 21))), ((a 22), .inl ((k 22), 8, .inl (f 22))), ((a 23), .inl ((k 23), 8, .inl (f 23))), ((a 24), .inr (1, [.int (v 24 0), .int (v 24 1), .int (v 24 2), .ref (a 25), .ref (a 26), .ref (a 27), .ref (a 28)])), ((a 25), .inl ((k 25), 8, .inl (f 25))), ((a 26), .inl ((k 26), 8, .inl (f 26))), ((a 27), .inl ((k 27), 8, .inl (f 27))), ((a 28), .inl ((k 28), 8, .inl (f 28))), ((a 29), .inr (3, [.int (v 29 0), .int (v 29 1), .int (v 29 2), .int (v 29 3), .int (v 29 4), .long (z 29 5)])), ((a 30), .inr (3, [.int (v 30 0), .int (v 30 1), .int (v 30 2), .int (v 30 3), .int (v 30 4), .long (z 30 5)])), ((a 107), .inr (0, [(w 107 0), (w 107 1), .ref (a 108), .ref (a 109), .int (v 107 4), .int (v 107 5), .int (v 107 6), .int (v 107 7)])), ((a 108), .inl ((k 108), 10, .inr (.inl (g 108)))), ((a 109), .inl ((k 109), 32, .inr (.inl (g 109)))), ((a 119), .inl ((k 119), 50, .inl (f 119)))]) [0, 6, 7, 8, 9, 10, 11, 12, 13, 14, 15, 16, 17, 18, 19, 20, 21, 22, 23, 24, 25, 26, 27, 28, 29, 30, 107, 108, 109, 119] (by decide) rfl, hE⟩, fun o t hq => ?_, fun p hp => lift_in (ws := (xW a k q v z w f g)) [0, 6, 7, 8, 9, 10, 11, 12, 13, 14, 15, 16, 17, 18, 19, 20, 21, 22, 23, 24, 25, 26, 27, 28, 29, 30, 107, 108, 109, 119] rfl xW_L hp⟩
  obtain ⟨⟨r, u, ho, hw, f_126, f_127, f_128, f_129, v_131, v_132, f_133, f_134, f_135, yy_125, zz_130, hP1, -, -⟩, hz, hk⟩ := hq
  refine ⟨⟨r, (), ho, trivial, ?_⟩, hz, fun p h1 h2 => hk p h1 (fun h => h2 (lift_in (ws := (xW a k q v z w f g)) [0, 6, 7, 8, 9, 10, 11, 12, 13, 14, 15, 16, 17, 18, 19, 20, 21, 22, 23, 24, 25, 26, 27, 28, 29, 30, 107, 108, 109, 119] rfl xW_L h))⟩
  have s0 := xs_0 (rfl : (xW a k q v z w f g) = _) (v 0 1) (v 0 5) (v 0 6) (v 0 18)
  have s1 := xs_6 s0 
  have s2 := xs_7 s1 (v 7 1) (v 7 2)
  have s3 := xs_8 s2 (f 8)
  have s4 := xs_9 s3 (v 9 1) (v 9 2)
  have s5 := xs_10 s4 (f 10)
  have s6 := xs_11 s5 (v 11 1) (v 11 2)
  have s7 := xs_12 s6 (f 12)
  have s8 := xs_13 s7 (v 13 1) (v 13 2)
  have s9 := xs_14 s8 (f 14)
  have s10 := xs_15 s9 (v 15 1) (v 15 2)
  have s11 := xs_16 s10 (f 16)
  have s12 := xs_17 s11 (v 17 1) (v 17 2)
  have s13 := xs_18 s12 (f 18)
  have s14 := xs_19 s13 (v 19 0) (v 19 1) (v 19 2)
  have s15 := xs_20 s14 (f 20)
  have s16 := xs_21 s15 (f 21)
  have s17 := xs_22 s16 (f 22)
  have s18 := xs_23 s17 (f 23)
  have s19 := xs_24 s18 (yy_125 0) (yy_125 1) (yy_125 2)
  have s20 := xs_25 s19 f_126
  have s21 := xs_26 s20 f_127
  have s22 := xs_27 s21 f_128
  have s23 := xs_28 s22 f_129
  have s24 := xs_29 s23 (v 29 0) (v 29 1) (v 29 2) (v 29 3) (v 29 4) (z 29 5)
  have s25 := xs_30 s24 (yy_125 3) (yy_125 4) (yy_125 5) (yy_125 6) (yy_125 7) (zz_130 0)
  have s26 := xs_107 s25 v_131 v_132 (yy_125 8) (yy_125 9) (yy_125 10) (yy_125 11)
  have s27 := xs_108 s26 f_133
  have s28 := xs_109 s27 f_134
  have s29 := xs_119 s28 f_135
  refine ⟨_, _, _, _, _, ?_, rp_P hP hN xW_L [0, 6, 7, 8, 9, 10, 11, 12, 13, 14, 15, 16, 17, 18, 19, 20, 21, 22, 23, 24, 25, 26, 27, 28, 29, 30, 107, 108, 109, 119] rfl hk hP1 rfl s29⟩
  exact hI0

set_option maxHeartbeats 4000000 in
set_option maxRecDepth 100000 in
theorem X_crumbs (l : Launch) (dC : Nat → ClassId) (dI : Nat → Nat → Nat) (sz : Nat) (kA vA : Nat → Nat) (a : Nat → Nat) (k : Nat → ClassId) (q : Nat → Nat → Option Nat) (hQ : xQ a q) (hN : AD (fun _ => True) (xL a)) (x : Int32) (md ix : Nat → Int32) (hM : ∀ j : Nat, j < 4 → md j = 0 ∨ md j = 1) (x0 : Int32) (x1 : Int32) : Met l yX11_crumbs (.code yX11_crumbs cX11_crumbs 9 (some .int) :: wsA) ({ frames := 2, cells := 0, slots := 0, locals := 43 }) (va_Pc [.ref (a 0), .int x0, .int x1] (xS dC dI sz kA vA a k q x md ix)) (va_Qi (fun (r : Int32) (_ : Unit) => True) (fun _ t => xP dC dI a k q x md ix t.heap) (inL (xL a) sz)) 0 0 (inL (xL a) sz) := by
  refine Met.lift (fun ar U h => ?_)
  obtain ⟨rfl, rfl, ⟨v, z, w, f, g, hI, hP⟩, hK, hE, hT⟩ := h
  have hI0 := hI
  obtain ⟨iX, ⟨iM0, iM1, iM2, iM3⟩, ⟨iY0, iY1, iY2, iY3⟩⟩ := hI
  refine ⟨_, _, _, x_crumbs l dC dI _ (a 0) (a 1) (v 0 1) (a 2) (a 4) (a 6) (v 0 5) (v 0 6) (a 19) (a 24) (a 29) (a 30) (a 31) (a 36) (a 58) (a 107) (a 110) (a 119) (a 120) (v 0 18) (v 19 0) (v 19 1) (v 19 2) (a 20) (a 21) (a 22) (a 23) (v 29 0) (v 29 1) (v 29 2) (v 29 3) (v 29 4) (z 29 5) x0 x1 , ⟨rfl, rfl, hP.sub (ws' := [((a 0), .inr (11, [.ref (a 1), .int (v 0 1), .ref (a 2), .ref (a 4), .ref (a 6), .int (v 0 5), .int (v 0 6), .ref (a 19), .ref (a 24), .ref (a 29), .ref (a 30), .ref (a 31), .ref (a 36), .ref (a 58), .ref (a 107), .ref (a 110), .ref (a 119), .ref (a 120), .int (v 0 18)])), ((a 19), .inr (1, [.int (v 19 0), .int (v 19 1), .int (v 19 2), .ref (a 20), .ref (a 21), .ref (a 22), .ref (a 23)])), ((a 29), .inr (3, [.int (v 29 0), .int (v 29 1), .int (v 29 2), .int (v 29 3), .int (v 29 4), .long (z 29 5)]))]) [0, 19, 29] rfl, hK.sub (tys' := []) [] rfl, (hN.D xW_L).sub (ws := (xW a k q v z w f g)) (ws' := [((a 0), .inr (11, [.ref (a 1), .int (v 0 1), .ref (a 2), .ref (a 4), .ref (a 6), .int (v 0 5), .int (v 0 6), .ref (a 19), .ref (a 24), .ref (a 29), .ref (a 30), .ref (a 31), .ref (a 36), .ref (a 58), .ref (a 107), .ref (a 110), .ref (a 119), .ref (a 120), .int (v 0 18)])), ((a 19), .inr (1, [.int (v 19 0), .int (v 19 1), .int (v 19 2), .ref (a 20), .ref (a 21), .ref (a 22), .ref (a 23)])), ((a 29), .inr (3, [.int (v 29 0), .int (v 29 1), .int (v 29 2), .int (v 29 3), .int (v 29 4), .long (z 29 5)]))]) [0, 19, 29] (by decide) rfl, hE⟩, fun o t hq => ?_, fun p hp => lift_in (ws := (xW a k q v z w f g)) [0, 19, 29] rfl xW_L hp⟩
  obtain ⟨⟨r, u, ho, hw, hP1, -, -⟩, hz, hk⟩ := hq
  refine ⟨⟨r, (), ho, trivial, ?_⟩, hz, fun p h1 h2 => hk p h1 (fun h => h2 (lift_in (ws := (xW a k q v z w f g)) [0, 19, 29] rfl xW_L h))⟩
  have s0 := xs_0 (rfl : (xW a k q v z w f g) = _) (v 0 1) (v 0 5) (v 0 6) (v 0 18)
  have s1 := xs_19 s0 (v 19 0) (v 19 1) (v 19 2)
  have s2 := xs_29 s1 (v 29 0) (v 29 1) (v 29 2) (v 29 3) (v 29 4) (z 29 5)
  refine ⟨_, _, _, _, _, ?_, rp_P hP hN xW_L [0, 19, 29] rfl hk hP1 rfl s2⟩
  exact hI0

set_option maxHeartbeats 4000000 in
set_option maxRecDepth 100000 in
theorem X_loudest (l : Launch) (dC : Nat → ClassId) (dI : Nat → Nat → Nat) (sz : Nat) (kA vA : Nat → Nat) (a : Nat → Nat) (k : Nat → ClassId) (q : Nat → Nat → Option Nat) (hQ : xQ a q) (hN : AD (fun _ => True) (xL a)) (x : Int32) (md ix : Nat → Int32) (hM : ∀ j : Nat, j < 4 → md j = 0 ∨ md j = 1) (x0 : Int32) (x1 : Int32) : Met l yX11_loudest (.code yX11_loudest cX11_loudest 6 (some .int) :: wsA) ({ frames := 5, cells := 0, slots := 0, locals := 116 }) (va_Pc [.ref (a 0), .int x0, .int x1] (xS dC dI sz kA vA a k q x md ix)) (va_Qi (fun (r : Int32) (_ : Unit) => True) (fun _ t => xP dC dI a k q x md ix t.heap) (inL (xL a) sz)) 0 0 (inL (xL a) sz) := by
  refine Met.lift (fun ar U h => ?_)
  obtain ⟨rfl, rfl, ⟨v, z, w, f, g, hI, hP⟩, hK, hE, hT⟩ := h
  have hI0 := hI
  obtain ⟨iX, ⟨iM0, iM1, iM2, iM3⟩, ⟨iY0, iY1, iY2, iY3⟩⟩ := hI
  refine ⟨_, _, _, x_loudest l dC dI _ (a 0) (a 1) (v 0 1) (a 2) (a 4) (a 6) (v 0 5) (v 0 6) (a 19) (a 24) (a 29) (a 30) (a 31) (a 36) (a 58) (a 107) (a 110) (a 119) (a 120) (v 0 18) (k 6) (q 6) (a 7) (a 9) (a 11) (a 13) (a 15) (a 17) (a 8) (v 7 1) (v 7 2) (k 8) (f 8) (a 10) (v 9 1) (v 9 2) (k 10) (f 10) (a 12) (v 11 1) (v 11 2) (k 12) (f 12) (a 14) (v 13 1) (v 13 2) (k 14) (f 14) (a 16) (v 15 1) (v 15 2) (k 16) (f 16) (a 18) (v 17 1) (v 17 2) (k 18) (f 18) (v 19 0) (v 19 1) (v 19 2) (a 20) (a 21) (a 22) (a 23) (k 20) (f 20) (k 21) (f 21) (k 22) (f 22) (k 23) (f 23) (v 29 0) (v 29 1) (v 29 2) (v 29 3) (v 29 4) (z 29 5) (v 30 0) (v 30 1) (v 30 2) (v 30 3) (v 30 4) (z 30 5) (w 107 0) (w 107 1) (a 108) (a 109) (v 107 4) (v 107 5) (v 107 6) (v 107 7) (k 108) (g 108) (k 109) (g 109) x0 x1 (xQ_at hQ (i := 0) (t := (6, 0, 7)) rfl) (xQ_at hQ (i := 1) (t := (6, 1, 9)) rfl) (xQ_at hQ (i := 2) (t := (6, 2, 11)) rfl) (xQ_at hQ (i := 3) (t := (6, 3, 13)) rfl) (xQ_at hQ (i := 4) (t := (6, 4, 15)) rfl) (xQ_at hQ (i := 5) (t := (6, 5, 17)) rfl), ⟨rfl, rfl, hP.sub (ws' := [((a 0), .inr (11, [.ref (a 1), .int (v 0 1), .ref (a 2), .ref (a 4), .ref (a 6), .int (v 0 5), .int (v 0 6), .ref (a 19), .ref (a 24), .ref (a 29), .ref (a 30), .ref (a 31), .ref (a 36), .ref (a 58), .ref (a 107), .ref (a 110), .ref (a 119), .ref (a 120), .int (v 0 18)])), ((a 6), .inl ((k 6), 6, .inr (.inr (.inr (.inr (q 6)))))), ((a 7), .inr (9, [.ref (a 8), .int (v 7 1), .int (v 7 2)])), ((a 8), .inl ((k 8), 400, .inl (f 8))), ((a 9), .inr (9, [.ref (a 10), .int (v 9 1), .int (v 9 2)])), ((a 10), .inl ((k 10), 400, .inl (f 10))), ((a 11), .inr (9, [.ref (a 12), .int (v 11 1), .int (v 11 2)])), ((a 12), .inl ((k 12), 400, .inl (f 12))), ((a 13), .inr (9, [.ref (a 14), .int (v 13 1), .int (v 13 2)])), ((a 14), .inl ((k 14), 400, .inl (f 14))), ((a 15), .inr (9, [.ref (a 16), .int (v 15 1), .int (v 15 2)])), ((a 16), .inl ((k 16), 400, .inl (f 16))), ((a 17), .inr (9, [.ref (a 18), .int (v 17 1), .int (v 17 2)])), ((a 18), .inl ((k 18), 400, .inl (f 18))), ((a 19), .inr (1, [.int (v 19 0), .int (v 19 1), .int (v 19 2), .ref (a 20), .ref (a 21), .ref (a 22), .ref (a 23)])), ((a 20), .inl ((k 20), 8, .inl (f 20))), ((a 21), .inl ((k 21), 8, .inl (f 21))), ((a 22), .inl ((k 22), 8, .inl (f 22))), ((a 23), .inl ((k 23), 8, .inl (f 23))), ((a 29), .inr (3, [.int (v 29 0), .int (v 29 1), .int (v 29 2), .int (v 29 3), .int (v 29 4), .long (z 29 5)])), ((a 30), .inr (3, [.int (v 30 0), .int (v 30 1), .int (v 30 2), .int (v 30 3), .int (v 30 4), .long (z 30 5)])), ((a 107), .inr (0, [(w 107 0), (w 107 1), .ref (a 108), .ref (a 109), .int (v 107 4), .int (v 107 5), .int (v 107 6), .int (v 107 7)])), ((a 108), .inl ((k 108), 10, .inr (.inl (g 108)))), ((a 109), .inl ((k 109), 32, .inr (.inl (g 109))))]) [0, 6, 7, 8, 9, 10, 11, 12, 13, 14, 15, 16, 17, 18, 19, 20, 21, 22, 23, 29, 30, 107, 108, 109] rfl, hK.sub (tys' := [((k 6), .object RX9), ((k 8), .int), ((k 10), .int), ((k 12), .int), ((k 14), .int), ((k 16), .int), ((k 18), .int), ((k 20), .int), ((k 21), .int), ((k 22), .int), ((k 23), .int), ((k 108), .long), ((k 109), .long)]) [1, 2, 3, 4, 5, 6, 7, 8, 9, 10, 11, 54, 55] rfl, (hN.D xW_L).sub (ws := (xW a k q v z w f g)) (ws' := [((a 0), .inr (11, [.ref (a 1), .int (v 0 1), .ref (a 2), .ref (a 4), .ref (a 6), .int (v 0 5), .int (v 0 6), .ref (a 19), .ref (a 24), .ref (a 29), .ref (a 30), .ref (a 31), .ref (a 36), .ref (a 58), .ref (a 107), .ref (a 110), .ref (a 119), .ref (a 120), .int (v 0 18)])), ((a 6), .inl ((k 6), 6, .inr (.inr (.inr (.inr (q 6)))))), ((a 7), .inr (9, [.ref (a 8), .int (v 7 1), .int (v 7 2)])), ((a 8), .inl ((k 8), 400, .inl (f 8))), ((a 9), .inr (9, [.ref (a 10), .int (v 9 1), .int (v 9 2)])), ((a 10), .inl ((k 10), 400, .inl (f 10))), ((a 11), .inr (9, [.ref (a 12), .int (v 11 1), .int (v 11 2)])), ((a 12), .inl ((k 12), 400, .inl (f 12))), ((a 13), .inr (9, [.ref (a 14), .int (v 13 1), .int (v 13 2)])), ((a 14), .inl ((k 14), 400, .inl (f 14))), ((a 15), .inr (9, [.ref (a 16), .int (v 15 1), .int (v 15 2)])), ((a 16), .inl ((k 16), 400, .inl (f 16))), ((a 17), .inr (9, [.ref (a 18), .int (v 17 1), .int (v 17 2)])), ((a 18), .inl ((k 18), 400, .inl (f 18))), ((a 19), .inr (1, [.int (v 19 0), .int (v 19 1), .int (v 19 2), .ref (a 20), .ref (a 21), .ref (a 22), .ref (a 23)])), ((a 20), .inl ((k 20), 8, .inl (f 20))), ((a 21), .inl ((k 21), 8, .inl (f 21))), ((a 22), .inl ((k 22), 8, .inl (f 22))), ((a 23), .inl ((k 23), 8, .inl (f 23))), ((a 29), .inr (3, [.int (v 29 0), .int (v 29 1), .int (v 29 2), .int (v 29 3), .int (v 29 4), .long (z 29 5)])), ((a 30), .inr (3, [.int (v 30 0), .int (v 30 1), .int (v 30 2), .int (v 30 3), .int (v 30 4), .long (z 30 5)])), ((a 107), .inr (0, [(w 107 0), (w 107 1), .ref (a 108), .ref (a 109), .int (v 107 4), .int (v 107 5), .int (v 107 6), .int (v 107 7)])), ((a 108), .inl ((k 108), 10, .inr (.inl (g 108)))), ((a 109), .inl ((k 109), 32, .inr (.inl (g 109))))]) [0, 6, 7, 8, 9, 10, 11, 12, 13, 14, 15, 16, 17, 18, 19, 20, 21, 22, 23, 29, 30, 107, 108, 109] (by decide) rfl, hE⟩, fun o t hq => ?_, fun p hp => lift_in (ws := (xW a k q v z w f g)) [0, 6, 7, 8, 9, 10, 11, 12, 13, 14, 15, 16, 17, 18, 19, 20, 21, 22, 23, 29, 30, 107, 108, 109] rfl xW_L hp⟩
  obtain ⟨⟨r, u, ho, hw, f_104, f_105, v_108, v_109, yy_106, zz_107, hP1, -, -⟩, hz, hk⟩ := hq
  refine ⟨⟨r, (), ho, trivial, ?_⟩, hz, fun p h1 h2 => hk p h1 (fun h => h2 (lift_in (ws := (xW a k q v z w f g)) [0, 6, 7, 8, 9, 10, 11, 12, 13, 14, 15, 16, 17, 18, 19, 20, 21, 22, 23, 29, 30, 107, 108, 109] rfl xW_L h))⟩
  have s0 := xs_0 (rfl : (xW a k q v z w f g) = _) (v 0 1) (v 0 5) (v 0 6) (v 0 18)
  have s1 := xs_6 s0 
  have s2 := xs_7 s1 (v 7 1) (v 7 2)
  have s3 := xs_8 s2 (f 8)
  have s4 := xs_9 s3 (v 9 1) (v 9 2)
  have s5 := xs_10 s4 (f 10)
  have s6 := xs_11 s5 (v 11 1) (v 11 2)
  have s7 := xs_12 s6 (f 12)
  have s8 := xs_13 s7 (v 13 1) (v 13 2)
  have s9 := xs_14 s8 (f 14)
  have s10 := xs_15 s9 (v 15 1) (v 15 2)
  have s11 := xs_16 s10 (f 16)
  have s12 := xs_17 s11 (v 17 1) (v 17 2)
  have s13 := xs_18 s12 (f 18)
  have s14 := xs_19 s13 (v 19 0) (v 19 1) (v 19 2)
  have s15 := xs_20 s14 (f 20)
  have s16 := xs_21 s15 (f 21)
  have s17 := xs_22 s16 (f 22)
  have s18 := xs_23 s17 (f 23)
  have s19 := xs_29 s18 (v 29 0) (v 29 1) (v 29 2) (v 29 3) (v 29 4) (z 29 5)
  have s20 := xs_30 s19 (yy_106 0) (yy_106 1) (yy_106 2) (yy_106 3) (yy_106 4) (zz_107 0)
  have s21 := xs_107 s20 v_108 v_109 (yy_106 5) (yy_106 6) (yy_106 7) (yy_106 8)
  have s22 := xs_108 s21 f_104
  have s23 := xs_109 s22 f_105
  refine ⟨_, _, _, _, _, ?_, rp_P hP hN xW_L [0, 6, 7, 8, 9, 10, 11, 12, 13, 14, 15, 16, 17, 18, 19, 20, 21, 22, 23, 29, 30, 107, 108, 109] rfl hk hP1 rfl s23⟩
  exact hI0

set_option maxHeartbeats 4000000 in
set_option maxRecDepth 100000 in
theorem X_note (l : Launch) (dC : Nat → ClassId) (dI : Nat → Nat → Nat) (sz : Nat) (kA vA : Nat → Nat) (a : Nat → Nat) (k : Nat → ClassId) (q : Nat → Nat → Option Nat) (hQ : xQ a q) (hN : AD (fun _ => True) (xL a)) (x : Int32) (md ix : Nat → Int32) (hM : ∀ j : Nat, j < 4 → md j = 0 ∨ md j = 1) (x0 : Int32) (x1 : Int32) (x2 : Int32) (x3 : Int32) : Met l yX11_note (.code yX11_note cX11_note 5 (some .int) :: wsA) ({ frames := 1, cells := 0, slots := 0, locals := 24 }) (va_Pc [.ref (a 0), .int x0, .int x1, .int x2, .int x3] (xS dC dI sz kA vA a k q x md ix)) (va_Qi (fun (r : Int32) (_ : Unit) => True) (fun _ t => xP dC dI a k q x md ix t.heap) (inL (xL a) sz)) 0 0 (inL (xL a) sz) := by
  refine Met.lift (fun ar U h => ?_)
  obtain ⟨rfl, rfl, ⟨v, z, w, f, g, hI, hP⟩, hK, hE, hT⟩ := h
  have hI0 := hI
  obtain ⟨iX, ⟨iM0, iM1, iM2, iM3⟩, ⟨iY0, iY1, iY2, iY3⟩⟩ := hI
  refine ⟨_, _, _, x_note l dC dI _ (a 0) (a 1) (v 0 1) (a 2) (a 4) (a 6) (v 0 5) (v 0 6) (a 19) (a 24) (a 29) (a 30) (a 31) (a 36) (a 58) (a 107) (a 110) (a 119) (a 120) (v 0 18) (v 19 0) (v 19 1) (v 19 2) (a 20) (a 21) (a 22) (a 23) (v 31 0) (a 32) (a 33) (a 34) (a 35) (k 32) (f 32) (k 33) (f 33) (k 34) (f 34) (k 35) (f 35) x0 x1 x2 x3 , ⟨rfl, rfl, hP.sub (ws' := [((a 0), .inr (11, [.ref (a 1), .int (v 0 1), .ref (a 2), .ref (a 4), .ref (a 6), .int (v 0 5), .int (v 0 6), .ref (a 19), .ref (a 24), .ref (a 29), .ref (a 30), .ref (a 31), .ref (a 36), .ref (a 58), .ref (a 107), .ref (a 110), .ref (a 119), .ref (a 120), .int (v 0 18)])), ((a 19), .inr (1, [.int (v 19 0), .int (v 19 1), .int (v 19 2), .ref (a 20), .ref (a 21), .ref (a 22), .ref (a 23)])), ((a 31), .inr (5, [.int (v 31 0), .ref (a 32), .ref (a 33), .ref (a 34), .ref (a 35)])), ((a 32), .inl ((k 32), 10, .inl (f 32))), ((a 33), .inl ((k 33), 10, .inl (f 33))), ((a 34), .inl ((k 34), 10, .inl (f 34))), ((a 35), .inl ((k 35), 10, .inl (f 35)))]) [0, 19, 31, 32, 33, 34, 35] rfl, hK.sub (tys' := [((k 32), .int), ((k 33), .int), ((k 34), .int), ((k 35), .int)]) [16, 17, 18, 19] rfl, (hN.D xW_L).sub (ws := (xW a k q v z w f g)) (ws' := [((a 0), .inr (11, [.ref (a 1), .int (v 0 1), .ref (a 2), .ref (a 4), .ref (a 6), .int (v 0 5), .int (v 0 6), .ref (a 19), .ref (a 24), .ref (a 29), .ref (a 30), .ref (a 31), .ref (a 36), .ref (a 58), .ref (a 107), .ref (a 110), .ref (a 119), .ref (a 120), .int (v 0 18)])), ((a 19), .inr (1, [.int (v 19 0), .int (v 19 1), .int (v 19 2), .ref (a 20), .ref (a 21), .ref (a 22), .ref (a 23)])), ((a 31), .inr (5, [.int (v 31 0), .ref (a 32), .ref (a 33), .ref (a 34), .ref (a 35)])), ((a 32), .inl ((k 32), 10, .inl (f 32))), ((a 33), .inl ((k 33), 10, .inl (f 33))), ((a 34), .inl ((k 34), 10, .inl (f 34))), ((a 35), .inl ((k 35), 10, .inl (f 35)))]) [0, 19, 31, 32, 33, 34, 35] (by decide) rfl, hE⟩, fun o t hq => ?_, fun p hp => lift_in (ws := (xW a k q v z w f g)) [0, 19, 31, 32, 33, 34, 35] rfl xW_L hp⟩
  obtain ⟨⟨r, u, ho, hw, f_19, f_20, f_21, f_22, yy_18, hP1, -, -⟩, hz, hk⟩ := hq
  refine ⟨⟨r, (), ho, trivial, ?_⟩, hz, fun p h1 h2 => hk p h1 (fun h => h2 (lift_in (ws := (xW a k q v z w f g)) [0, 19, 31, 32, 33, 34, 35] rfl xW_L h))⟩
  have s0 := xs_0 (rfl : (xW a k q v z w f g) = _) (v 0 1) (v 0 5) (v 0 6) (v 0 18)
  have s1 := xs_19 s0 (v 19 0) (v 19 1) (v 19 2)
  have s2 := xs_31 s1 (yy_18 0)
  have s3 := xs_32 s2 f_19
  have s4 := xs_33 s3 f_20
  have s5 := xs_34 s4 f_21
  have s6 := xs_35 s5 f_22
  refine ⟨_, _, _, _, _, ?_, rp_P hP hN xW_L [0, 19, 31, 32, 33, 34, 35] rfl hk hP1 rfl s6⟩
  exact hI0

set_option maxHeartbeats 4000000 in
set_option maxRecDepth 100000 in
theorem X_ruled (l : Launch) (dC : Nat → ClassId) (dI : Nat → Nat → Nat) (sz : Nat) (kA vA : Nat → Nat) (a : Nat → Nat) (k : Nat → ClassId) (q : Nat → Nat → Option Nat) (hQ : xQ a q) (hN : AD (fun _ => True) (xL a)) (x : Int32) (md ix : Nat → Int32) (hM : ∀ j : Nat, j < 4 → md j = 0 ∨ md j = 1) (x0 : Int32) : Met l yX11_ruled (.code yX11_ruled cX11_ruled 5 (some .int) :: wsA) ({ frames := 7, cells := 0, slots := 0, locals := 161 }) (va_Pc [.ref (a 0), .int x0] (xS dC dI sz kA vA a k q x md ix)) (va_Qi (fun (r : Int32) (_ : Unit) => True) (fun _ t => xP dC dI a k q x md ix t.heap) (inL (xL a) sz)) 0 0 (inL (xL a) sz) := by
  refine Met.lift (fun ar U h => ?_)
  obtain ⟨rfl, rfl, ⟨v, z, w, f, g, hI, hP⟩, hK, hE, hT⟩ := h
  have hI0 := hI
  obtain ⟨iX, ⟨iM0, iM1, iM2, iM3⟩, ⟨iY0, iY1, iY2, iY3⟩⟩ := hI
  refine ⟨_, _, _, x_ruled l dC dI _ (a 0) (a 1) (v 0 1) (a 2) (a 4) (a 6) (v 0 5) (v 0 6) (a 19) (a 24) (a 29) (a 30) (a 31) (a 36) (a 58) (a 107) (a 110) (a 119) (a 120) (v 0 18) (k 6) (q 6) (a 7) (a 9) (a 11) (a 13) (a 15) (a 17) (a 8) (v 7 1) (v 7 2) (k 8) (f 8) (a 10) (v 9 1) (v 9 2) (k 10) (f 10) (a 12) (v 11 1) (v 11 2) (k 12) (f 12) (a 14) (v 13 1) (v 13 2) (k 14) (f 14) (a 16) (v 15 1) (v 15 2) (k 16) (f 16) (a 18) (v 17 1) (v 17 2) (k 18) (f 18) (v 19 0) (v 19 1) (v 19 2) (a 20) (a 21) (a 22) (a 23) (k 20) (f 20) (k 21) (f 21) (k 22) (f 22) (k 23) (f 23) (v 30 0) (v 30 1) (v 30 2) (v 30 3) (v 30 4) (z 30 5) (v 31 0) (a 32) (a 33) (a 34) (a 35) (k 32) (f 32) (k 33) (f 33) (k 34) (f 34) (k 35) (f 35) (w 107 0) (w 107 1) (a 108) (a 109) (v 107 4) (v 107 5) (v 107 6) (v 107 7) (k 108) (g 108) (k 109) (g 109) x0 (xQ_at hQ (i := 0) (t := (6, 0, 7)) rfl) (xQ_at hQ (i := 1) (t := (6, 1, 9)) rfl) (xQ_at hQ (i := 2) (t := (6, 2, 11)) rfl) (xQ_at hQ (i := 3) (t := (6, 3, 13)) rfl) (xQ_at hQ (i := 4) (t := (6, 4, 15)) rfl) (xQ_at hQ (i := 5) (t := (6, 5, 17)) rfl), ⟨rfl, rfl, hP.sub (ws' := [((a 0), .inr (11, [.ref (a 1), .int (v 0 1), .ref (a 2), .ref (a 4), .ref (a 6), .int (v 0 5), .int (v 0 6), .ref (a 19), .ref (a 24), .ref (a 29), .ref (a 30), .ref (a 31), .ref (a 36), .ref (a 58), .ref (a 107), .ref (a 110), .ref (a 119), .ref (a 120), .int (v 0 18)])), ((a 6), .inl ((k 6), 6, .inr (.inr (.inr (.inr (q 6)))))), ((a 7), .inr (9, [.ref (a 8), .int (v 7 1), .int (v 7 2)])), ((a 8), .inl ((k 8), 400, .inl (f 8))), ((a 9), .inr (9, [.ref (a 10), .int (v 9 1), .int (v 9 2)])), ((a 10), .inl ((k 10), 400, .inl (f 10))), ((a 11), .inr (9, [.ref (a 12), .int (v 11 1), .int (v 11 2)])), ((a 12), .inl ((k 12), 400, .inl (f 12))), ((a 13), .inr (9, [.ref (a 14), .int (v 13 1), .int (v 13 2)])), ((a 14), .inl ((k 14), 400, .inl (f 14))), ((a 15), .inr (9, [.ref (a 16), .int (v 15 1), .int (v 15 2)])), ((a 16), .inl ((k 16), 400, .inl (f 16))), ((a 17), .inr (9, [.ref (a 18), .int (v 17 1), .int (v 17 2)])), ((a 18), .inl ((k 18), 400, .inl (f 18))), ((a 19), .inr (1, [.int (v 19 0), .int (v 19 1), .int (v 19 2), .ref (a 20), .ref (a 21), .ref (a 22), .ref (a 23)])), ((a 20), .inl ((k 20), 8, .inl (f 20))), ((a 21), .inl ((k 21), 8, .inl (f 21))), ((a 22), .inl ((k 22), 8, .inl (f 22))), ((a 23), .inl ((k 23), 8, .inl (f 23))), ((a 30), .inr (3, [.int (v 30 0), .int (v 30 1), .int (v 30 2), .int (v 30 3), .int (v 30 4), .long (z 30 5)])), ((a 31), .inr (5, [.int (v 31 0), .ref (a 32), .ref (a 33), .ref (a 34), .ref (a 35)])), ((a 32), .inl ((k 32), 10, .inl (f 32))), ((a 33), .inl ((k 33), 10, .inl (f 33))), ((a 34), .inl ((k 34), 10, .inl (f 34))), ((a 35), .inl ((k 35), 10, .inl (f 35))), ((a 107), .inr (0, [(w 107 0), (w 107 1), .ref (a 108), .ref (a 109), .int (v 107 4), .int (v 107 5), .int (v 107 6), .int (v 107 7)])), ((a 108), .inl ((k 108), 10, .inr (.inl (g 108)))), ((a 109), .inl ((k 109), 32, .inr (.inl (g 109))))]) [0, 6, 7, 8, 9, 10, 11, 12, 13, 14, 15, 16, 17, 18, 19, 20, 21, 22, 23, 30, 31, 32, 33, 34, 35, 107, 108, 109] rfl, hK.sub (tys' := [((k 6), .object RX9), ((k 8), .int), ((k 10), .int), ((k 12), .int), ((k 14), .int), ((k 16), .int), ((k 18), .int), ((k 20), .int), ((k 21), .int), ((k 22), .int), ((k 23), .int), ((k 32), .int), ((k 33), .int), ((k 34), .int), ((k 35), .int), ((k 108), .long), ((k 109), .long)]) [1, 2, 3, 4, 5, 6, 7, 8, 9, 10, 11, 16, 17, 18, 19, 54, 55] rfl, (hN.D xW_L).sub (ws := (xW a k q v z w f g)) (ws' := [((a 0), .inr (11, [.ref (a 1), .int (v 0 1), .ref (a 2), .ref (a 4), .ref (a 6), .int (v 0 5), .int (v 0 6), .ref (a 19), .ref (a 24), .ref (a 29), .ref (a 30), .ref (a 31), .ref (a 36), .ref (a 58), .ref (a 107), .ref (a 110), .ref (a 119), .ref (a 120), .int (v 0 18)])), ((a 6), .inl ((k 6), 6, .inr (.inr (.inr (.inr (q 6)))))), ((a 7), .inr (9, [.ref (a 8), .int (v 7 1), .int (v 7 2)])), ((a 8), .inl ((k 8), 400, .inl (f 8))), ((a 9), .inr (9, [.ref (a 10), .int (v 9 1), .int (v 9 2)])), ((a 10), .inl ((k 10), 400, .inl (f 10))), ((a 11), .inr (9, [.ref (a 12), .int (v 11 1), .int (v 11 2)])), ((a 12), .inl ((k 12), 400, .inl (f 12))), ((a 13), .inr (9, [.ref (a 14), .int (v 13 1), .int (v 13 2)])), ((a 14), .inl ((k 14), 400, .inl (f 14))), ((a 15), .inr (9, [.ref (a 16), .int (v 15 1), .int (v 15 2)])), ((a 16), .inl ((k 16), 400, .inl (f 16))), ((a 17), .inr (9, [.ref (a 18), .int (v 17 1), .int (v 17 2)])), ((a 18), .inl ((k 18), 400, .inl (f 18))), ((a 19), .inr (1, [.int (v 19 0), .int (v 19 1), .int (v 19 2), .ref (a 20), .ref (a 21), .ref (a 22), .ref (a 23)])), ((a 20), .inl ((k 20), 8, .inl (f 20))), ((a 21), .inl ((k 21), 8, .inl (f 21))), ((a 22), .inl ((k 22), 8, .inl (f 22))), ((a 23), .inl ((k 23), 8, .inl (f 23))), ((a 30), .inr (3, [.int (v 30 0), .int (v 30 1), .int (v 30 2), .int (v 30 3), .int (v 30 4), .long (z 30 5)])), ((a 31), .inr (5, [.int (v 31 0), .ref (a 32), .ref (a 33), .ref (a 34), .ref (a 35)])), ((a 32), .inl ((k 32), 10, .inl (f 32))), ((a 33), .inl ((k 33), 10, .inl (f 33))), ((a 34), .inl ((k 34), 10, .inl (f 34))), ((a 35), .inl ((k 35), 10, .inl (f 35))), ((a 107), .inr (0, [(w 107 0), (w 107 1), .ref (a 108), .ref (a 109), .int (v 107 4), .int (v 107 5), .int (v 107 6), .int (v 107 7)])), ((a 108), .inl ((k 108), 10, .inr (.inl (g 108)))), ((a 109), .inl ((k 109), 32, .inr (.inl (g 109))))]) [0, 6, 7, 8, 9, 10, 11, 12, 13, 14, 15, 16, 17, 18, 19, 20, 21, 22, 23, 30, 31, 32, 33, 34, 35, 107, 108, 109] (by decide) rfl, hE⟩, fun o t hq => ?_, fun p hp => lift_in (ws := (xW a k q v z w f g)) [0, 6, 7, 8, 9, 10, 11, 12, 13, 14, 15, 16, 17, 18, 19, 20, 21, 22, 23, 30, 31, 32, 33, 34, 35, 107, 108, 109] rfl xW_L hp⟩
  obtain ⟨⟨r, u, ho, hw, v_139, v_140, f_141, f_142, yy_137, zz_138, hP1, -, -⟩, hz, hk⟩ := hq
  refine ⟨⟨r, (), ho, trivial, ?_⟩, hz, fun p h1 h2 => hk p h1 (fun h => h2 (lift_in (ws := (xW a k q v z w f g)) [0, 6, 7, 8, 9, 10, 11, 12, 13, 14, 15, 16, 17, 18, 19, 20, 21, 22, 23, 30, 31, 32, 33, 34, 35, 107, 108, 109] rfl xW_L h))⟩
  have s0 := xs_0 (rfl : (xW a k q v z w f g) = _) (v 0 1) (v 0 5) (v 0 6) (v 0 18)
  have s1 := xs_6 s0 
  have s2 := xs_7 s1 (v 7 1) (v 7 2)
  have s3 := xs_8 s2 (f 8)
  have s4 := xs_9 s3 (v 9 1) (v 9 2)
  have s5 := xs_10 s4 (f 10)
  have s6 := xs_11 s5 (v 11 1) (v 11 2)
  have s7 := xs_12 s6 (f 12)
  have s8 := xs_13 s7 (v 13 1) (v 13 2)
  have s9 := xs_14 s8 (f 14)
  have s10 := xs_15 s9 (v 15 1) (v 15 2)
  have s11 := xs_16 s10 (f 16)
  have s12 := xs_17 s11 (v 17 1) (v 17 2)
  have s13 := xs_18 s12 (f 18)
  have s14 := xs_19 s13 (v 19 0) (v 19 1) (v 19 2)
  have s15 := xs_20 s14 (f 20)
  have s16 := xs_21 s15 (f 21)
  have s17 := xs_22 s16 (f 22)
  have s18 := xs_23 s17 (f 23)
  have s19 := xs_30 s18 (yy_137 0) (yy_137 1) (yy_137 2) (yy_137 3) (yy_137 4) (zz_138 0)
  have s20 := xs_31 s19 (v 31 0)
  have s21 := xs_32 s20 (f 32)
  have s22 := xs_33 s21 (f 33)
  have s23 := xs_34 s22 (f 34)
  have s24 := xs_35 s23 (f 35)
  have s25 := xs_107 s24 v_139 v_140 (yy_137 5) (yy_137 6) (yy_137 7) (yy_137 8)
  have s26 := xs_108 s25 f_141
  have s27 := xs_109 s26 f_142
  refine ⟨_, _, _, _, _, ?_, rp_P hP hN xW_L [0, 6, 7, 8, 9, 10, 11, 12, 13, 14, 15, 16, 17, 18, 19, 20, 21, 22, 23, 30, 31, 32, 33, 34, 35, 107, 108, 109] rfl hk hP1 rfl s27⟩
  exact hI0

set_option maxHeartbeats 4000000 in
set_option maxRecDepth 100000 in
theorem X_look (l : Launch) (dC : Nat → ClassId) (dI : Nat → Nat → Nat) (sz : Nat) (kA vA : Nat → Nat) (a : Nat → Nat) (k : Nat → ClassId) (q : Nat → Nat → Option Nat) (hQ : xQ a q) (hN : AD (fun _ => True) (xL a)) (x : Int32) (md ix : Nat → Int32) (hM : ∀ j : Nat, j < 4 → md j = 0 ∨ md j = 1) (x0 : Int32) (x1 : Int32) : Met l yX11_look (.code yX11_look cX11_look 8 (some .int) :: wsA) ({ frames := 8, cells := 0, slots := 0, locals := 184 }) (va_Pc [.ref (a 0), .int x0, .int x1] (xS dC dI sz kA vA a k q x md ix)) (va_Qi (fun (r : Int32) (_ : Unit) => True) (fun _ t => xP dC dI a k q x md ix t.heap) (inL (xL a) sz)) 0 0 (inL (xL a) sz) := by
  refine Met.lift (fun ar U h => ?_)
  obtain ⟨rfl, rfl, ⟨v, z, w, f, g, hI, hP⟩, hK, hE, hT⟩ := h
  have hI0 := hI
  obtain ⟨iX, ⟨iM0, iM1, iM2, iM3⟩, ⟨iY0, iY1, iY2, iY3⟩⟩ := hI
  refine ⟨_, _, _, x_look l dC dI _ (a 0) (a 1) (v 0 1) (a 2) (a 4) (a 6) (v 0 5) (v 0 6) (a 19) (a 24) (a 29) (a 30) (a 31) (a 36) (a 58) (a 107) (a 110) (a 119) (a 120) (v 0 18) (k 6) (q 6) (a 7) (a 9) (a 11) (a 13) (a 15) (a 17) (a 8) (v 7 1) (v 7 2) (k 8) (f 8) (a 10) (v 9 1) (v 9 2) (k 10) (f 10) (a 12) (v 11 1) (v 11 2) (k 12) (f 12) (a 14) (v 13 1) (v 13 2) (k 14) (f 14) (a 16) (v 15 1) (v 15 2) (k 16) (f 16) (a 18) (v 17 1) (v 17 2) (k 18) (f 18) (v 19 0) (v 19 1) (v 19 2) (a 20) (a 21) (a 22) (a 23) (k 20) (f 20) (k 21) (f 21) (k 22) (f 22) (k 23) (f 23) (v 30 0) (v 30 1) (v 30 2) (v 30 3) (v 30 4) (z 30 5) (v 31 0) (a 32) (a 33) (a 34) (a 35) (k 32) (f 32) (k 33) (f 33) (k 34) (f 34) (k 35) (f 35) (w 107 0) (w 107 1) (a 108) (a 109) (v 107 4) (v 107 5) (v 107 6) (v 107 7) (k 108) (g 108) (k 109) (g 109) (k 120) (g 120) x0 x1 (xQ_at hQ (i := 0) (t := (6, 0, 7)) rfl) (xQ_at hQ (i := 1) (t := (6, 1, 9)) rfl) (xQ_at hQ (i := 2) (t := (6, 2, 11)) rfl) (xQ_at hQ (i := 3) (t := (6, 3, 13)) rfl) (xQ_at hQ (i := 4) (t := (6, 4, 15)) rfl) (xQ_at hQ (i := 5) (t := (6, 5, 17)) rfl), ⟨rfl, rfl, hP.sub (ws' := [((a 0), .inr (11, [.ref (a 1), .int (v 0 1), .ref (a 2), .ref (a 4), .ref (a 6), .int (v 0 5), .int (v 0 6), .ref (a 19), .ref (a 24), .ref (a 29), .ref (a 30), .ref (a 31), .ref (a 36), .ref (a 58), .ref (a 107), .ref (a 110), .ref (a 119), .ref (a 120), .int (v 0 18)])), ((a 6), .inl ((k 6), 6, .inr (.inr (.inr (.inr (q 6)))))), ((a 7), .inr (9, [.ref (a 8), .int (v 7 1), .int (v 7 2)])), ((a 8), .inl ((k 8), 400, .inl (f 8))), ((a 9), .inr (9, [.ref (a 10), .int (v 9 1), .int (v 9 2)])), ((a 10), .inl ((k 10), 400, .inl (f 10))), ((a 11), .inr (9, [.ref (a 12), .int (v 11 1), .int (v 11 2)])), ((a 12), .inl ((k 12), 400, .inl (f 12))), ((a 13), .inr (9, [.ref (a 14), .int (v 13 1), .int (v 13 2)])), ((a 14), .inl ((k 14), 400, .inl (f 14))), ((a 15), .inr (9, [.ref (a 16), .int (v 15 1), .int (v 15 2)])), ((a 16), .inl ((k 16), 400, .inl (f 16))), ((a 17), .inr (9, [.ref (a 18), .int (v 17 1), .int (v 17 2)])), ((a 18), .inl ((k 18), 400, .inl (f 18))), ((a 19), .inr (1, [.int (v 19 0), .int (v 19 1), .int (v 19 2), .ref (a 20), .ref (a 21), .ref (a 22), .ref (a 23)])), ((a 20), .inl ((k 20), 8, .inl (f 20))), ((a 21), .inl ((k 21), 8, .inl (f 21))), ((a 22), .inl ((k 22), 8, .inl (f 22))), ((a 23), .inl ((k 23), 8, .inl (f 23))), ((a 30), .inr (3, [.int (v 30 0), .int (v 30 1), .int (v 30 2), .int (v 30 3), .int (v 30 4), .long (z 30 5)])), ((a 31), .inr (5, [.int (v 31 0), .ref (a 32), .ref (a 33), .ref (a 34), .ref (a 35)])), ((a 32), .inl ((k 32), 10, .inl (f 32))), ((a 33), .inl ((k 33), 10, .inl (f 33))), ((a 34), .inl ((k 34), 10, .inl (f 34))), ((a 35), .inl ((k 35), 10, .inl (f 35))), ((a 107), .inr (0, [(w 107 0), (w 107 1), .ref (a 108), .ref (a 109), .int (v 107 4), .int (v 107 5), .int (v 107 6), .int (v 107 7)])), ((a 108), .inl ((k 108), 10, .inr (.inl (g 108)))), ((a 109), .inl ((k 109), 32, .inr (.inl (g 109)))), ((a 120), .inl ((k 120), 7, .inr (.inl (g 120))))]) [0, 6, 7, 8, 9, 10, 11, 12, 13, 14, 15, 16, 17, 18, 19, 20, 21, 22, 23, 30, 31, 32, 33, 34, 35, 107, 108, 109, 120] rfl, hK.sub (tys' := [((k 6), .object RX9), ((k 8), .int), ((k 10), .int), ((k 12), .int), ((k 14), .int), ((k 16), .int), ((k 18), .int), ((k 20), .int), ((k 21), .int), ((k 22), .int), ((k 23), .int), ((k 32), .int), ((k 33), .int), ((k 34), .int), ((k 35), .int), ((k 108), .long), ((k 109), .long), ((k 120), .long)]) [1, 2, 3, 4, 5, 6, 7, 8, 9, 10, 11, 16, 17, 18, 19, 54, 55, 60] rfl, (hN.D xW_L).sub (ws := (xW a k q v z w f g)) (ws' := [((a 0), .inr (11, [.ref (a 1), .int (v 0 1), .ref (a 2), .ref (a 4), .ref (a 6), .int (v 0 5), .int (v 0 6), .ref (a 19), .ref (a 24), .ref (a 29), .ref (a 30), .ref (a 31), .ref (a 36), .ref (a 58), .ref (a 107), .ref (a 110), .ref (a 119), .ref (a 120), .int (v 0 18)])), ((a 6), .inl ((k 6), 6, .inr (.inr (.inr (.inr (q 6)))))), ((a 7), .inr (9, [.ref (a 8), .int (v 7 1), .int (v 7 2)])), ((a 8), .inl ((k 8), 400, .inl (f 8))), ((a 9), .inr (9, [.ref (a 10), .int (v 9 1), .int (v 9 2)])), ((a 10), .inl ((k 10), 400, .inl (f 10))), ((a 11), .inr (9, [.ref (a 12), .int (v 11 1), .int (v 11 2)])), ((a 12), .inl ((k 12), 400, .inl (f 12))), ((a 13), .inr (9, [.ref (a 14), .int (v 13 1), .int (v 13 2)])), ((a 14), .inl ((k 14), 400, .inl (f 14))), ((a 15), .inr (9, [.ref (a 16), .int (v 15 1), .int (v 15 2)])), ((a 16), .inl ((k 16), 400, .inl (f 16))), ((a 17), .inr (9, [.ref (a 18), .int (v 17 1), .int (v 17 2)])), ((a 18), .inl ((k 18), 400, .inl (f 18))), ((a 19), .inr (1, [.int (v 19 0), .int (v 19 1), .int (v 19 2), .ref (a 20), .ref (a 21), .ref (a 22), .ref (a 23)])), ((a 20), .inl ((k 20), 8, .inl (f 20))), ((a 21), .inl ((k 21), 8, .inl (f 21))), ((a 22), .inl ((k 22), 8, .inl (f 22))), ((a 23), .inl ((k 23), 8, .inl (f 23))), ((a 30), .inr (3, [.int (v 30 0), .int (v 30 1), .int (v 30 2), .int (v 30 3), .int (v 30 4), .long (z 30 5)])), ((a 31), .inr (5, [.int (v 31 0), .ref (a 32), .ref (a 33), .ref (a 34), .ref (a 35)])), ((a 32), .inl ((k 32), 10, .inl (f 32))), ((a 33), .inl ((k 33), 10, .inl (f 33))), ((a 34), .inl ((k 34), 10, .inl (f 34))), ((a 35), .inl ((k 35), 10, .inl (f 35))), ((a 107), .inr (0, [(w 107 0), (w 107 1), .ref (a 108), .ref (a 109), .int (v 107 4), .int (v 107 5), .int (v 107 6), .int (v 107 7)])), ((a 108), .inl ((k 108), 10, .inr (.inl (g 108)))), ((a 109), .inl ((k 109), 32, .inr (.inl (g 109)))), ((a 120), .inl ((k 120), 7, .inr (.inl (g 120))))]) [0, 6, 7, 8, 9, 10, 11, 12, 13, 14, 15, 16, 17, 18, 19, 20, 21, 22, 23, 30, 31, 32, 33, 34, 35, 107, 108, 109, 120] (by decide) rfl, hE⟩, fun o t hq => ?_, fun p hp => lift_in (ws := (xW a k q v z w f g)) [0, 6, 7, 8, 9, 10, 11, 12, 13, 14, 15, 16, 17, 18, 19, 20, 21, 22, 23, 30, 31, 32, 33, 34, 35, 107, 108, 109, 120] rfl xW_L hp⟩
  obtain ⟨⟨r, u, ho, hw, v_70, v_71, f_72, f_73, f_74, yy_68, zz_69, hP1, -, -⟩, hz, hk⟩ := hq
  refine ⟨⟨r, (), ho, trivial, ?_⟩, hz, fun p h1 h2 => hk p h1 (fun h => h2 (lift_in (ws := (xW a k q v z w f g)) [0, 6, 7, 8, 9, 10, 11, 12, 13, 14, 15, 16, 17, 18, 19, 20, 21, 22, 23, 30, 31, 32, 33, 34, 35, 107, 108, 109, 120] rfl xW_L h))⟩
  have s0 := xs_0 (rfl : (xW a k q v z w f g) = _) (v 0 1) (v 0 5) (v 0 6) (v 0 18)
  have s1 := xs_6 s0 
  have s2 := xs_7 s1 (v 7 1) (v 7 2)
  have s3 := xs_8 s2 (f 8)
  have s4 := xs_9 s3 (v 9 1) (v 9 2)
  have s5 := xs_10 s4 (f 10)
  have s6 := xs_11 s5 (v 11 1) (v 11 2)
  have s7 := xs_12 s6 (f 12)
  have s8 := xs_13 s7 (v 13 1) (v 13 2)
  have s9 := xs_14 s8 (f 14)
  have s10 := xs_15 s9 (v 15 1) (v 15 2)
  have s11 := xs_16 s10 (f 16)
  have s12 := xs_17 s11 (v 17 1) (v 17 2)
  have s13 := xs_18 s12 (f 18)
  have s14 := xs_19 s13 (v 19 0) (v 19 1) (v 19 2)
  have s15 := xs_20 s14 (f 20)
  have s16 := xs_21 s15 (f 21)
  have s17 := xs_22 s16 (f 22)
  have s18 := xs_23 s17 (f 23)
  have s19 := xs_30 s18 (yy_68 0) (yy_68 1) (yy_68 2) (yy_68 3) (yy_68 4) (zz_69 0)
  have s20 := xs_31 s19 (v 31 0)
  have s21 := xs_32 s20 (f 32)
  have s22 := xs_33 s21 (f 33)
  have s23 := xs_34 s22 (f 34)
  have s24 := xs_35 s23 (f 35)
  have s25 := xs_107 s24 v_70 v_71 (yy_68 5) (yy_68 6) (yy_68 7) (yy_68 8)
  have s26 := xs_108 s25 f_72
  have s27 := xs_109 s26 f_73
  have s28 := xs_120 s27 f_74
  refine ⟨_, _, _, _, _, ?_, rp_P hP hN xW_L [0, 6, 7, 8, 9, 10, 11, 12, 13, 14, 15, 16, 17, 18, 19, 20, 21, 22, 23, 30, 31, 32, 33, 34, 35, 107, 108, 109, 120] rfl hk hP1 rfl s28⟩
  exact hI0

set_option maxHeartbeats 4000000 in
set_option maxRecDepth 100000 in
theorem X_seed (l : Launch) (dC : Nat → ClassId) (dI : Nat → Nat → Nat) (sz : Nat) (kA vA : Nat → Nat) (a : Nat → Nat) (k : Nat → ClassId) (q : Nat → Nat → Option Nat) (hQ : xQ a q) (hN : AD (fun _ => True) (xL a)) (x : Int32) (md ix : Nat → Int32) (hM : ∀ j : Nat, j < 4 → md j = 0 ∨ md j = 1) (x0 : Int32) : Met l yX11_seed (.code yX11_seed cX11_seed 3 (some .int) :: wsA) ({ frames := 0, cells := 0, slots := 0, locals := 0 }) (va_Pc [.ref (a 0), .int x0] (xS dC dI sz kA vA a k q x md ix)) (va_Qi (fun (r : Int32) (_ : Unit) => r = sdr x0 x) (fun _ t => xP dC dI a k q (sdx x0 x) md ix t.heap) (inL (xL a) sz)) 0 0 (inL (xL a) sz) := by
  refine Met.lift (fun ar U h => ?_)
  obtain ⟨rfl, rfl, ⟨v, z, w, f, g, hI, hP⟩, hK, hE, hT⟩ := h
  have hI0 := hI
  obtain ⟨iX, ⟨iM0, iM1, iM2, iM3⟩, ⟨iY0, iY1, iY2, iY3⟩⟩ := hI
  by_cases hc : x0.toInt < 0
  · refine ⟨_, _, _, x_seed_neg l dC dI _ (a 0) (a 1) (v 0 1) (a 2) (a 4) (a 6) (v 0 5) (v 0 6) (a 19) (a 24) (a 29) (a 30) (a 31) (a 36) (a 58) (a 107) (a 110) (a 119) (a 120) (v 0 18) x0 (bt_lo hc), ⟨rfl, rfl, hP.sub (ws' := [((a 0), .inr (11, [.ref (a 1), .int (v 0 1), .ref (a 2), .ref (a 4), .ref (a 6), .int (v 0 5), .int (v 0 6), .ref (a 19), .ref (a 24), .ref (a 29), .ref (a 30), .ref (a 31), .ref (a 36), .ref (a 58), .ref (a 107), .ref (a 110), .ref (a 119), .ref (a 120), .int (v 0 18)]))]) [0] rfl, hK.sub (tys' := []) [] rfl, (hN.D xW_L).sub (ws := (xW a k q v z w f g)) (ws' := [((a 0), .inr (11, [.ref (a 1), .int (v 0 1), .ref (a 2), .ref (a 4), .ref (a 6), .int (v 0 5), .int (v 0 6), .ref (a 19), .ref (a 24), .ref (a 29), .ref (a 30), .ref (a 31), .ref (a 36), .ref (a 58), .ref (a 107), .ref (a 110), .ref (a 119), .ref (a 120), .int (v 0 18)]))]) [0] (by decide) rfl, hE⟩, fun o t hq => ?_, fun p hp => lift_in (ws := (xW a k q v z w f g)) [0] rfl xW_L hp⟩
    obtain ⟨⟨r, u, ho, hw, hP1, -, -⟩, hz, hk⟩ := hq
    refine ⟨⟨r, (), ho, by rw [(sd_n (x := x) hc).2]; exact hw, ?_⟩, hz, fun p h1 h2 => hk p h1 (fun h => h2 (lift_in (ws := (xW a k q v z w f g)) [0] rfl xW_L h))⟩
    rw [(sd_n (x := x) hc).1]
    have s0 := xs_0 (rfl : (xW a k q v z w f g) = _) (v 0 1) (v 0 5) (v 0 6) (v 0 18)
    refine ⟨_, _, _, _, _, ?_, rp_P hP hN xW_L [0] rfl hk hP1 rfl s0⟩
    exact hI0
  · refine ⟨_, _, _, x_seed_pos l dC dI _ (a 0) (a 1) (v 0 1) (a 2) (a 4) (a 6) (v 0 5) (v 0 6) (a 19) (a 24) (a 29) (a 30) (a 31) (a 36) (a 58) (a 107) (a 110) (a 119) (a 120) (v 0 18) x0 (bt_ps hc), ⟨rfl, rfl, hP.sub (ws' := [((a 0), .inr (11, [.ref (a 1), .int (v 0 1), .ref (a 2), .ref (a 4), .ref (a 6), .int (v 0 5), .int (v 0 6), .ref (a 19), .ref (a 24), .ref (a 29), .ref (a 30), .ref (a 31), .ref (a 36), .ref (a 58), .ref (a 107), .ref (a 110), .ref (a 119), .ref (a 120), .int (v 0 18)]))]) [0] rfl, hK.sub (tys' := []) [] rfl, (hN.D xW_L).sub (ws := (xW a k q v z w f g)) (ws' := [((a 0), .inr (11, [.ref (a 1), .int (v 0 1), .ref (a 2), .ref (a 4), .ref (a 6), .int (v 0 5), .int (v 0 6), .ref (a 19), .ref (a 24), .ref (a 29), .ref (a 30), .ref (a 31), .ref (a 36), .ref (a 58), .ref (a 107), .ref (a 110), .ref (a 119), .ref (a 120), .int (v 0 18)]))]) [0] (by decide) rfl, hE⟩, fun o t hq => ?_, fun p hp => lift_in (ws := (xW a k q v z w f g)) [0] rfl xW_L hp⟩
    obtain ⟨⟨r, u, ho, hw, hP1, -, -⟩, hz, hk⟩ := hq
    refine ⟨⟨r, (), ho, by rw [(sd_p (x := x) hc).2, ← iX]; exact hw, ?_⟩, hz, fun p h1 h2 => hk p h1 (fun h => h2 (lift_in (ws := (xW a k q v z w f g)) [0] rfl xW_L h))⟩
    rw [(sd_p (x := x) hc).1]
    have s0 := xs_0 (rfl : (xW a k q v z w f g) = _) (v 0 1) (v 0 5) (v 0 6) x0
    refine ⟨_, _, _, _, _, ?_, rp_P hP hN xW_L [0] rfl hk hP1 rfl s0⟩
    exact ⟨rfl, hI0.2⟩

set_option maxHeartbeats 4000000 in
set_option maxRecDepth 100000 in
theorem X_hiccups (l : Launch) (dC : Nat → ClassId) (dI : Nat → Nat → Nat) (sz : Nat) (kA vA : Nat → Nat) (a : Nat → Nat) (k : Nat → ClassId) (q : Nat → Nat → Option Nat) (hQ : xQ a q) (hN : AD (fun _ => True) (xL a)) (x : Int32) (md ix : Nat → Int32) (hM : ∀ j : Nat, j < 4 → md j = 0 ∨ md j = 1) (x0 : Int32) (x1 : Int32) (x2 : Int32) (x3 : Int32) : Met l yX11_hiccups (.code yX11_hiccups cX11_hiccups 8 (some .int) :: wsA) ({ frames := 6, cells := 0, slots := 0, locals := 141 }) (va_Pc [.ref (a 0), .int x0, .int x1, .int x2, .int x3] (xS dC dI sz kA vA a k q x md ix)) (va_Qi (fun (r : Int32) (_ : Unit) => True) (fun _ t => xP dC dI a k q x md ix t.heap) (inL (xL a) sz)) 0 0 (inL (xL a) sz) := by
  refine Met.lift (fun ar U h => ?_)
  obtain ⟨rfl, rfl, ⟨v, z, w, f, g, hI, hP⟩, hK, hE, hT⟩ := h
  have hI0 := hI
  obtain ⟨iX, ⟨iM0, iM1, iM2, iM3⟩, ⟨iY0, iY1, iY2, iY3⟩⟩ := hI
  refine ⟨_, _, _, x_hiccups l dC dI _ (a 0) (a 1) (v 0 1) (a 2) (a 4) (a 6) (v 0 5) (v 0 6) (a 19) (a 24) (a 29) (a 30) (a 31) (a 36) (a 58) (a 107) (a 110) (a 119) (a 120) (v 0 18) (k 6) (q 6) (a 7) (a 9) (a 11) (a 13) (a 15) (a 17) (a 8) (v 7 1) (v 7 2) (k 8) (f 8) (a 10) (v 9 1) (v 9 2) (k 10) (f 10) (a 12) (v 11 1) (v 11 2) (k 12) (f 12) (a 14) (v 13 1) (v 13 2) (k 14) (f 14) (a 16) (v 15 1) (v 15 2) (k 16) (f 16) (a 18) (v 17 1) (v 17 2) (k 18) (f 18) (v 19 0) (v 19 1) (v 19 2) (a 20) (a 21) (a 22) (a 23) (k 20) (f 20) (k 21) (f 21) (k 22) (f 22) (k 23) (f 23) (v 29 0) (v 29 1) (v 29 2) (v 29 3) (v 29 4) (z 29 5) (v 30 0) (v 30 1) (v 30 2) (v 30 3) (v 30 4) (z 30 5) (w 107 0) (w 107 1) (a 108) (a 109) (v 107 4) (v 107 5) (v 107 6) (v 107 7) (k 108) (g 108) (k 109) (g 109) x0 x1 x2 x3 (xQ_at hQ (i := 0) (t := (6, 0, 7)) rfl) (xQ_at hQ (i := 1) (t := (6, 1, 9)) rfl) (xQ_at hQ (i := 2) (t := (6, 2, 11)) rfl) (xQ_at hQ (i := 3) (t := (6, 3, 13)) rfl) (xQ_at hQ (i := 4) (t := (6, 4, 15)) rfl) (xQ_at hQ (i := 5) (t := (6, 5, 17)) rfl), ⟨rfl, rfl, hP.sub (ws' := [((a 0), .inr (11, [.ref (a 1), .int (v 0 1), .ref (a 2), .ref (a 4), .ref (a 6), .int (v 0 5), .int (v 0 6), .ref (a 19), .ref (a 24), .ref (a 29), .ref (a 30), .ref (a 31), .ref (a 36), .ref (a 58), .ref (a 107), .ref (a 110), .ref (a 119), .ref (a 120), .int (v 0 18)])), ((a 6), .inl ((k 6), 6, .inr (.inr (.inr (.inr (q 6)))))), ((a 7), .inr (9, [.ref (a 8), .int (v 7 1), .int (v 7 2)])), ((a 8), .inl ((k 8), 400, .inl (f 8))), ((a 9), .inr (9, [.ref (a 10), .int (v 9 1), .int (v 9 2)])), ((a 10), .inl ((k 10), 400, .inl (f 10))), ((a 11), .inr (9, [.ref (a 12), .int (v 11 1), .int (v 11 2)])), ((a 12), .inl ((k 12), 400, .inl (f 12))), ((a 13), .inr (9, [.ref (a 14), .int (v 13 1), .int (v 13 2)])), ((a 14), .inl ((k 14), 400, .inl (f 14))), ((a 15), .inr (9, [.ref (a 16), .int (v 15 1), .int (v 15 2)])), ((a 16), .inl ((k 16), 400, .inl (f 16))), ((a 17), .inr (9, [.ref (a 18), .int (v 17 1), .int (v 17 2)])), ((a 18), .inl ((k 18), 400, .inl (f 18))), ((a 19), .inr (1, [.int (v 19 0), .int (v 19 1), .int (v 19 2), .ref (a 20), .ref (a 21), .ref (a 22), .ref (a 23)])), ((a 20), .inl ((k 20), 8, .inl (f 20))), ((a 21), .inl ((k 21), 8, .inl (f 21))), ((a 22), .inl ((k 22), 8, .inl (f 22))), ((a 23), .inl ((k 23), 8, .inl (f 23))), ((a 29), .inr (3, [.int (v 29 0), .int (v 29 1), .int (v 29 2), .int (v 29 3), .int (v 29 4), .long (z 29 5)])), ((a 30), .inr (3, [.int (v 30 0), .int (v 30 1), .int (v 30 2), .int (v 30 3), .int (v 30 4), .long (z 30 5)])), ((a 107), .inr (0, [(w 107 0), (w 107 1), .ref (a 108), .ref (a 109), .int (v 107 4), .int (v 107 5), .int (v 107 6), .int (v 107 7)])), ((a 108), .inl ((k 108), 10, .inr (.inl (g 108)))), ((a 109), .inl ((k 109), 32, .inr (.inl (g 109))))]) [0, 6, 7, 8, 9, 10, 11, 12, 13, 14, 15, 16, 17, 18, 19, 20, 21, 22, 23, 29, 30, 107, 108, 109] rfl, hK.sub (tys' := [((k 6), .object RX9), ((k 8), .int), ((k 10), .int), ((k 12), .int), ((k 14), .int), ((k 16), .int), ((k 18), .int), ((k 20), .int), ((k 21), .int), ((k 22), .int), ((k 23), .int), ((k 108), .long), ((k 109), .long)]) [1, 2, 3, 4, 5, 6, 7, 8, 9, 10, 11, 54, 55] rfl, (hN.D xW_L).sub (ws := (xW a k q v z w f g)) (ws' := [((a 0), .inr (11, [.ref (a 1), .int (v 0 1), .ref (a 2), .ref (a 4), .ref (a 6), .int (v 0 5), .int (v 0 6), .ref (a 19), .ref (a 24), .ref (a 29), .ref (a 30), .ref (a 31), .ref (a 36), .ref (a 58), .ref (a 107), .ref (a 110), .ref (a 119), .ref (a 120), .int (v 0 18)])), ((a 6), .inl ((k 6), 6, .inr (.inr (.inr (.inr (q 6)))))), ((a 7), .inr (9, [.ref (a 8), .int (v 7 1), .int (v 7 2)])), ((a 8), .inl ((k 8), 400, .inl (f 8))), ((a 9), .inr (9, [.ref (a 10), .int (v 9 1), .int (v 9 2)])), ((a 10), .inl ((k 10), 400, .inl (f 10))), ((a 11), .inr (9, [.ref (a 12), .int (v 11 1), .int (v 11 2)])), ((a 12), .inl ((k 12), 400, .inl (f 12))), ((a 13), .inr (9, [.ref (a 14), .int (v 13 1), .int (v 13 2)])), ((a 14), .inl ((k 14), 400, .inl (f 14))), ((a 15), .inr (9, [.ref (a 16), .int (v 15 1), .int (v 15 2)])), ((a 16), .inl ((k 16), 400, .inl (f 16))), ((a 17), .inr (9, [.ref (a 18), .int (v 17 1), .int (v 17 2)])), ((a 18), .inl ((k 18), 400, .inl (f 18))), ((a 19), .inr (1, [.int (v 19 0), .int (v 19 1), .int (v 19 2), .ref (a 20), .ref (a 21), .ref (a 22), .ref (a 23)])), ((a 20), .inl ((k 20), 8, .inl (f 20))), ((a 21), .inl ((k 21), 8, .inl (f 21))), ((a 22), .inl ((k 22), 8, .inl (f 22))), ((a 23), .inl ((k 23), 8, .inl (f 23))), ((a 29), .inr (3, [.int (v 29 0), .int (v 29 1), .int (v 29 2), .int (v 29 3), .int (v 29 4), .long (z 29 5)])), ((a 30), .inr (3, [.int (v 30 0), .int (v 30 1), .int (v 30 2), .int (v 30 3), .int (v 30 4), .long (z 30 5)])), ((a 107), .inr (0, [(w 107 0), (w 107 1), .ref (a 108), .ref (a 109), .int (v 107 4), .int (v 107 5), .int (v 107 6), .int (v 107 7)])), ((a 108), .inl ((k 108), 10, .inr (.inl (g 108)))), ((a 109), .inl ((k 109), 32, .inr (.inl (g 109))))]) [0, 6, 7, 8, 9, 10, 11, 12, 13, 14, 15, 16, 17, 18, 19, 20, 21, 22, 23, 29, 30, 107, 108, 109] (by decide) rfl, hE⟩, fun o t hq => ?_, fun p hp => lift_in (ws := (xW a k q v z w f g)) [0, 6, 7, 8, 9, 10, 11, 12, 13, 14, 15, 16, 17, 18, 19, 20, 21, 22, 23, 29, 30, 107, 108, 109] rfl xW_L hp⟩
  obtain ⟨⟨r, u, ho, hw, v_147, v_148, f_149, f_150, yy_145, zz_146, hP1, -, -⟩, hz, hk⟩ := hq
  refine ⟨⟨r, (), ho, trivial, ?_⟩, hz, fun p h1 h2 => hk p h1 (fun h => h2 (lift_in (ws := (xW a k q v z w f g)) [0, 6, 7, 8, 9, 10, 11, 12, 13, 14, 15, 16, 17, 18, 19, 20, 21, 22, 23, 29, 30, 107, 108, 109] rfl xW_L h))⟩
  have s0 := xs_0 (rfl : (xW a k q v z w f g) = _) (v 0 1) (v 0 5) (v 0 6) (v 0 18)
  have s1 := xs_6 s0 
  have s2 := xs_7 s1 (v 7 1) (v 7 2)
  have s3 := xs_8 s2 (f 8)
  have s4 := xs_9 s3 (v 9 1) (v 9 2)
  have s5 := xs_10 s4 (f 10)
  have s6 := xs_11 s5 (v 11 1) (v 11 2)
  have s7 := xs_12 s6 (f 12)
  have s8 := xs_13 s7 (v 13 1) (v 13 2)
  have s9 := xs_14 s8 (f 14)
  have s10 := xs_15 s9 (v 15 1) (v 15 2)
  have s11 := xs_16 s10 (f 16)
  have s12 := xs_17 s11 (v 17 1) (v 17 2)
  have s13 := xs_18 s12 (f 18)
  have s14 := xs_19 s13 (v 19 0) (v 19 1) (v 19 2)
  have s15 := xs_20 s14 (f 20)
  have s16 := xs_21 s15 (f 21)
  have s17 := xs_22 s16 (f 22)
  have s18 := xs_23 s17 (f 23)
  have s19 := xs_29 s18 (v 29 0) (v 29 1) (v 29 2) (v 29 3) (v 29 4) (z 29 5)
  have s20 := xs_30 s19 (yy_145 0) (yy_145 1) (yy_145 2) (yy_145 3) (yy_145 4) (zz_146 0)
  have s21 := xs_107 s20 v_147 v_148 (yy_145 5) (yy_145 6) (yy_145 7) (yy_145 8)
  have s22 := xs_108 s21 f_149
  have s23 := xs_109 s22 f_150
  refine ⟨_, _, _, _, _, ?_, rp_P hP hN xW_L [0, 6, 7, 8, 9, 10, 11, 12, 13, 14, 15, 16, 17, 18, 19, 20, 21, 22, 23, 29, 30, 107, 108, 109] rfl hk hP1 rfl s23⟩
  exact hI0

set_option maxHeartbeats 4000000 in
set_option maxRecDepth 100000 in
theorem X_count (l : Launch) (dC : Nat → ClassId) (dI : Nat → Nat → Nat) (sz : Nat) (kA vA : Nat → Nat) (a : Nat → Nat) (k : Nat → ClassId) (q : Nat → Nat → Option Nat) (hQ : xQ a q) (hN : AD (fun _ => True) (xL a)) (x : Int32) (md ix : Nat → Int32) (hM : ∀ j : Nat, j < 4 → md j = 0 ∨ md j = 1) (x0 : Int32) : Met l yX11_count (.code yX11_count cX11_count 2 (some .int) :: wsA) ({ frames := 1, cells := 0, slots := 0, locals := 21 }) (va_Pc [.ref (a 0), .int x0] (xS dC dI sz kA vA a k q x md ix)) (va_Qi (fun (r : Int32) (_ : Unit) => True) (fun _ t => xP dC dI a k q x md ix t.heap) (inL (xL a) sz)) 0 0 (inL (xL a) sz) := by
  refine Met.lift (fun ar U h => ?_)
  obtain ⟨rfl, rfl, ⟨v, z, w, f, g, hI, hP⟩, hK, hE, hT⟩ := h
  have hI0 := hI
  obtain ⟨iX, ⟨iM0, iM1, iM2, iM3⟩, ⟨iY0, iY1, iY2, iY3⟩⟩ := hI
  refine ⟨_, _, _, x_count l dC dI _ (a 0) (a 1) (v 0 1) (a 2) (a 4) (a 6) (v 0 5) (v 0 6) (a 19) (a 24) (a 29) (a 30) (a 31) (a 36) (a 58) (a 107) (a 110) (a 119) (a 120) (v 0 18) (v 19 0) (v 19 1) (v 19 2) (a 20) (a 21) (a 22) (a 23) (v 29 0) (v 29 1) (v 29 2) (v 29 3) (v 29 4) (z 29 5) (v 31 0) (a 32) (a 33) (a 34) (a 35) (a 37) (v 36 1) (v 36 2) x0 , ⟨rfl, rfl, hP.sub (ws' := [((a 0), .inr (11, [.ref (a 1), .int (v 0 1), .ref (a 2), .ref (a 4), .ref (a 6), .int (v 0 5), .int (v 0 6), .ref (a 19), .ref (a 24), .ref (a 29), .ref (a 30), .ref (a 31), .ref (a 36), .ref (a 58), .ref (a 107), .ref (a 110), .ref (a 119), .ref (a 120), .int (v 0 18)])), ((a 19), .inr (1, [.int (v 19 0), .int (v 19 1), .int (v 19 2), .ref (a 20), .ref (a 21), .ref (a 22), .ref (a 23)])), ((a 29), .inr (3, [.int (v 29 0), .int (v 29 1), .int (v 29 2), .int (v 29 3), .int (v 29 4), .long (z 29 5)])), ((a 31), .inr (5, [.int (v 31 0), .ref (a 32), .ref (a 33), .ref (a 34), .ref (a 35)])), ((a 36), .inr (6, [.ref (a 37), .int (v 36 1), .int (v 36 2)]))]) [0, 19, 29, 31, 36] rfl, hK.sub (tys' := []) [] rfl, (hN.D xW_L).sub (ws := (xW a k q v z w f g)) (ws' := [((a 0), .inr (11, [.ref (a 1), .int (v 0 1), .ref (a 2), .ref (a 4), .ref (a 6), .int (v 0 5), .int (v 0 6), .ref (a 19), .ref (a 24), .ref (a 29), .ref (a 30), .ref (a 31), .ref (a 36), .ref (a 58), .ref (a 107), .ref (a 110), .ref (a 119), .ref (a 120), .int (v 0 18)])), ((a 19), .inr (1, [.int (v 19 0), .int (v 19 1), .int (v 19 2), .ref (a 20), .ref (a 21), .ref (a 22), .ref (a 23)])), ((a 29), .inr (3, [.int (v 29 0), .int (v 29 1), .int (v 29 2), .int (v 29 3), .int (v 29 4), .long (z 29 5)])), ((a 31), .inr (5, [.int (v 31 0), .ref (a 32), .ref (a 33), .ref (a 34), .ref (a 35)])), ((a 36), .inr (6, [.ref (a 37), .int (v 36 1), .int (v 36 2)]))]) [0, 19, 29, 31, 36] (by decide) rfl, hE⟩, fun o t hq => ?_, fun p hp => lift_in (ws := (xW a k q v z w f g)) [0, 19, 29, 31, 36] rfl xW_L hp⟩
  obtain ⟨⟨r, u, ho, hw, hP1, -, -⟩, hz, hk⟩ := hq
  refine ⟨⟨r, (), ho, trivial, ?_⟩, hz, fun p h1 h2 => hk p h1 (fun h => h2 (lift_in (ws := (xW a k q v z w f g)) [0, 19, 29, 31, 36] rfl xW_L h))⟩
  have s0 := xs_0 (rfl : (xW a k q v z w f g) = _) (v 0 1) (v 0 5) (v 0 6) (v 0 18)
  have s1 := xs_19 s0 (v 19 0) (v 19 1) (v 19 2)
  have s2 := xs_29 s1 (v 29 0) (v 29 1) (v 29 2) (v 29 3) (v 29 4) (z 29 5)
  have s3 := xs_31 s2 (v 31 0)
  have s4 := xs_36 s3 (v 36 1) (v 36 2)
  refine ⟨_, _, _, _, _, ?_, rp_P hP hN xW_L [0, 19, 29, 31, 36] rfl hk hP1 rfl s4⟩
  exact hI0
