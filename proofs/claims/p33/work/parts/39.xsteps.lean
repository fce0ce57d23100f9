
theorem xT.narrow {kA vA : Nat → Nat} {A A1 : Nat → Prop} {U : State} {H : Heap} (h : xT kA vA A U H) (hF : ∀ q, A1 q → A q) : xT kA vA A1 U H := by
  obtain ⟨h0, h1, h2, hg⟩ := h
  exact ⟨h0.narrow hF, h1.narrow hF, h2.narrow hF, hg⟩
def xW (a : Nat → Nat) (k : Nat → ClassId) (q : Nat → Nat → Option Nat) (v : Nat → Nat → Int32) (z : Nat → Nat → Int64) (w : Nat → Nat → Value) (f : Nat → Nat → Int32) (g : Nat → Nat → Int64) : va_W := (((a 0), .inr (11, [.ref (a 1), .int (v 0 1), .ref (a 2), .ref (a 4), .ref (a 6), .int (v 0 5), .int (v 0 6), .ref (a 19), .ref (a 24), .ref (a 29), .ref (a 30), .ref (a 31), .ref (a 36), .ref (a 58), .ref (a 107), .ref (a 110), .ref (a 119), .ref (a 120), .int (v 0 18)])) :: ((a 1), .inl ((k 1), 400, .inl (f 1))) :: ((a 2), .inr (2, [.ref (a 3)])) :: ((a 3), .inr (7, [(w 3 0), .int (v 3 1), .int (v 3 2), .int (v 3 3)])) :: ((a 4), .inr (10, [.ref (a 5), (w 4 1), .int (v 4 2)])) :: ((a 5), .inr (7, [(w 5 0), .int (v 5 1), .int (v 5 2), .int (v 5 3)])) :: ((a 6), .inl ((k 6), 6, .inr (.inr (.inr (.inr (q 6)))))) :: ((a 7), .inr (9, [.ref (a 8), .int (v 7 1), .int (v 7 2)])) :: ((a 8), .inl ((k 8), 400, .inl (f 8))) :: ((a 9), .inr (9, [.ref (a 10), .int (v 9 1), .int (v 9 2)])) :: ((a 10), .inl ((k 10), 400, .inl (f 10))) :: ((a 11), .inr (9, [.ref (a 12), .int (v 11 1), .int (v 11 2)])) :: ((a 12), .inl ((k 12), 400, .inl (f 12))) :: ((a 13), .inr (9, [.ref (a 14), .int (v 13 1), .int (v 13 2)])) :: ((a 14), .inl ((k 14), 400, .inl (f 14))) :: ((a 15), .inr (9, [.ref (a 16), .int (v 15 1), .int (v 15 2)])) :: ((a 16), .inl ((k 16), 400, .inl (f 16))) :: ((a 17), .inr (9, [.ref (a 18), .int (v 17 1), .int (v 17 2)])) :: ((a 18), .inl ((k 18), 400, .inl (f 18))) :: ((a 19), .inr (1, [.int (v 19 0), .int (v 19 1), .int (v 19 2), .ref (a 20), .ref (a 21), .ref (a 22), .ref (a 23)])) :: ((a 20), .inl ((k 20), 8, .inl (f 20))) :: ((a 21), .inl ((k 21), 8, .inl (f 21))) :: ((a 22), .inl ((k 22), 8, .inl (f 22))) :: ((a 23), .inl ((k 23), 8, .inl (f 23))) :: ((a 24), .inr (1, [.int (v 24 0), .int (v 24 1), .int (v 24 2), .ref (a 25), .ref (a 26), .ref (a 27), .ref (a 28)])) :: ((a 25), .inl ((k 25), 8, .inl (f 25))) :: ((a 26), .inl ((k 26), 8, .inl (f 26))) :: ((a 27), .inl ((k 27), 8, .inl (f 27))) :: ((a 28), .inl ((k 28), 8, .inl (f 28))) :: ((a 29), .inr (3, [.int (v 29 0), .int (v 29 1), .int (v 29 2), .int (v 29 3), .int (v 29 4), .long (z 29 5)])) :: ((a 30), .inr (3, [.int (v 30 0), .int (v 30 1), .int (v 30 2), .int (v 30 3), .int (v 30 4), .long (z 30 5)])) :: ((a 31), .inr (5, [.int (v 31 0), .ref (a 32), .ref (a 33), .ref (a 34), .ref (a 35)])) :: ((a 32), .inl ((k 32), 10, .inl (f 32))) :: ((a 33), .inl ((k 33), 10, .inl (f 33))) :: ((a 34), .inl ((k 34), 10, .inl (f 34))) :: ((a 35), .inl ((k 35), 10, .inl (f 35))) :: ((a 36), .inr (6, [.ref (a 37), .int (v 36 1), .int (v 36 2)])) :: ((a 37), .inl ((k 37), 20, .inr (.inr (.inr (.inr (q 37)))))) :: ((a 38), .inr (3, [.int (v 38 0), .int (v 38 1), .int (v 38 2), .int (v 38 3), .int (v 38 4), .long (z 38 5)])) :: ((a 39), .inr (3, [.int (v 39 0), .int (v 39 1), .int (v 39 2), .int (v 39 3), .int (v 39 4), .long (z 39 5)])) :: ((a 40), .inr (3, [.int (v 40 0), .int (v 40 1), .int (v 40 2), .int (v 40 3), .int (v 40 4), .long (z 40 5)])) :: ((a 41), .inr (3, [.int (v 41 0), .int (v 41 1), .int (v 41 2), .int (v 41 3), .int (v 41 4), .long (z 41 5)])) :: ((a 42), .inr (3, [.int (v 42 0), .int (v 42 1), .int (v 42 2), .int (v 42 3), .int (v 42 4), .long (z 42 5)])) :: ((a 43), .inr (3, [.int (v 43 0), .int (v 43 1), .int (v 43 2), .int (v 43 3), .int (v 43 4), .long (z 43 5)])) :: ((a 44), .inr (3, [.int (v 44 0), .int (v 44 1), .int (v 44 2), .int (v 44 3), .int (v 44 4), .long (z 44 5)])) :: ((a 45), .inr (3, [.int (v 45 0), .int (v 45 1), .int (v 45 2), .int (v 45 3), .int (v 45 4), .long (z 45 5)])) :: ((a 46), .inr (3, [.int (v 46 0), .int (v 46 1), .int (v 46 2), .int (v 46 3), .int (v 46 4), .long (z 46 5)])) :: ((a 47), .inr (3, [.int (v 47 0), .int (v 47 1), .int (v 47 2), .int (v 47 3), .int (v 47 4), .long (z 47 5)])) :: ((a 48), .inr (3, [.int (v 48 0), .int (v 48 1), .int (v 48 2), .int (v 48 3), .int (v 48 4), .long (z 48 5)])) :: ((a 49), .inr (3, [.int (v 49 0), .int (v 49 1), .int (v 49 2), .int (v 49 3), .int (v 49 4), .long (z 49 5)])) :: ((a 50), .inr (3, [.int (v 50 0), .int (v 50 1), .int (v 50 2), .int (v 50 3), .int (v 50 4), .long (z 50 5)])) :: ((a 51), .inr (3, [.int (v 51 0), .int (v 51 1), .int (v 51 2), .int (v 51 3), .int (v 51 4), .long (z 51 5)])) :: ((a 52), .inr (3, [.int (v 52 0), .int (v 52 1), .int (v 52 2), .int (v 52 3), .int (v 52 4), .long (z 52 5)])) :: ((a 53), .inr (3, [.int (v 53 0), .int (v 53 1), .int (v 53 2), .int (v 53 3), .int (v 53 4), .long (z 53 5)])) :: ((a 54), .inr (3, [.int (v 54 0), .int (v 54 1), .int (v 54 2), .int (v 54 3), .int (v 54 4), .long (z 54 5)])) :: ((a 55), .inr (3, [.int (v 55 0), .int (v 55 1), .int (v 55 2), .int (v 55 3), .int (v 55 4), .long (z 55 5)])) :: ((a 56), .inr (3, [.int (v 56 0), .int (v 56 1), .int (v 56 2), .int (v 56 3), .int (v 56 4), .long (z 56 5)])) :: ((a 57), .inr (3, [.int (v 57 0), .int (v 57 1), .int (v 57 2), .int (v 57 3), .int (v 57 4), .long (z 57 5)])) :: ((a 58), .inl ((k 58), 4, .inr (.inr (.inr (.inr (q 58)))))) :: ((a 59), .inr (4, [.int (v 59 0), .ref (a 60), .ref (a 65), .ref (a 66), .int (v 59 4), .int (v 59 5)])) :: ((a 60), .inr (1, [.int (v 60 0), .int (v 60 1), .int (v 60 2), .ref (a 61), .ref (a 62), .ref (a 63), .ref (a 64)])) :: ((a 61), .inl ((k 61), 8, .inl (f 61))) :: ((a 62), .inl ((k 62), 8, .inl (f 62))) :: ((a 63), .inl ((k 63), 8, .inl (f 63))) :: ((a 64), .inl ((k 64), 8, .inl (f 64))) :: ((a 65), .inr (3, [.int (v 65 0), .int (v 65 1), .int (v 65 2), .int (v 65 3), .int (v 65 4), .long (z 65 5)])) :: ((a 66), .inr (5, [.int (v 66 0), .ref (a 67), .ref (a 68), .ref (a 69), .ref (a 70)])) :: ((a 67), .inl ((k 67), 10, .inl (f 67))) :: ((a 68), .inl ((k 68), 10, .inl (f 68))) :: ((a 69), .inl ((k 69), 10, .inl (f 69))) :: ((a 70), .inl ((k 70), 10, .inl (f 70))) :: ((a 71), .inr (4, [.int (v 71 0), .ref (a 72), .ref (a 77), .ref (a 78), .int (v 71 4), .int (v 71 5)])) :: ((a 72), .inr (1, [.int (v 72 0), .int (v 72 1), .int (v 72 2), .ref (a 73), .ref (a 74), .ref (a 75), .ref (a 76)])) :: ((a 73), .inl ((k 73), 8, .inl (f 73))) :: ((a 74), .inl ((k 74), 8, .inl (f 74))) :: ((a 75), .inl ((k 75), 8, .inl (f 75))) :: ((a 76), .inl ((k 76), 8, .inl (f 76))) :: ((a 77), .inr (3, [.int (v 77 0), .int (v 77 1), .int (v 77 2), .int (v 77 3), .int (v 77 4), .long (z 77 5)])) :: ((a 78), .inr (5, [.int (v 78 0), .ref (a 79), .ref (a 80), .ref (a 81), .ref (a 82)])) :: ((a 79), .inl ((k 79), 10, .inl (f 79))) :: ((a 80), .inl ((k 80), 10, .inl (f 80))) :: ((a 81), .inl ((k 81), 10, .inl (f 81))) :: ((a 82), .inl ((k 82), 10, .inl (f 82))) :: ((a 83), .inr (4, [.int (v 83 0), .ref (a 84), .ref (a 89), .ref (a 90), .int (v 83 4), .int (v 83 5)])) :: ((a 84), .inr (1, [.int (v 84 0), .int (v 84 1), .int (v 84 2), .ref (a 85), .ref (a 86), .ref (a 87), .ref (a 88)])) :: ((a 85), .inl ((k 85), 8, .inl (f 85))) :: ((a 86), .inl ((k 86), 8, .inl (f 86))) :: ((a 87), .inl ((k 87), 8, .inl (f 87))) :: ((a 88), .inl ((k 88), 8, .inl (f 88))) :: ((a 89), .inr (3, [.int (v 89 0), .int (v 89 1), .int (v 89 2), .int (v 89 3), .int (v 89 4), .long (z 89 5)])) :: ((a 90), .inr (5, [.int (v 90 0), .ref (a 91), .ref (a 92), .ref (a 93), .ref (a 94)])) :: ((a 91), .inl ((k 91), 10, .inl (f 91))) :: ((a 92), .inl ((k 92), 10, .inl (f 92))) :: ((a 93), .inl ((k 93), 10, .inl (f 93))) :: ((a 94), .inl ((k 94), 10, .inl (f 94))) :: ((a 95), .inr (4, [.int (v 95 0), .ref (a 96), .ref (a 101), .ref (a 102), .int (v 95 4), .int (v 95 5)])) :: ((a 96), .inr (1, [.int (v 96 0), .int (v 96 1), .int (v 96 2), .ref (a 97), .ref (a 98), .ref (a 99), .ref (a 100)])) :: ((a 97), .inl ((k 97), 8, .inl (f 97))) :: ((a 98), .inl ((k 98), 8, .inl (f 98))) :: ((a 99), .inl ((k 99), 8, .inl (f 99))) :: ((a 100), .inl ((k 100), 8, .inl (f 100))) :: ((a 101), .inr (3, [.int (v 101 0), .int (v 101 1), .int (v 101 2), .int (v 101 3), .int (v 101 4), .long (z 101 5)])) :: ((a 102), .inr (5, [.int (v 102 0), .ref (a 103), .ref (a 104), .ref (a 105), .ref (a 106)])) :: ((a 103), .inl ((k 103), 10, .inl (f 103))) :: ((a 104), .inl ((k 104), 10, .inl (f 104))) :: ((a 105), .inl ((k 105), 10, .inl (f 105))) :: ((a 106), .inl ((k 106), 10, .inl (f 106))) :: ((a 107), .inr (0, [(w 107 0), (w 107 1), .ref (a 108), .ref (a 109), .int (v 107 4), .int (v 107 5), .int (v 107 6), .int (v 107 7)])) :: ((a 108), .inl ((k 108), 10, .inr (.inl (g 108)))) :: ((a 109), .inl ((k 109), 32, .inr (.inl (g 109)))) :: ((a 110), .inr (8, [.ref (a 111), .ref (a 112), .ref (a 113), .int (v 110 3), .int (v 110 4), .int (v 110 5), .int (v 110 6)])) :: ((a 111), .inl ((k 111), 5, .inr (.inr (.inr (.inr (q 111)))))) :: ((a 112), .inl ((k 112), 4, .inl (f 112))) :: ((a 113), .inl ((k 113), 4, .inl (f 113))) :: ((a 114), .inr (3, [.int (v 114 0), .int (v 114 1), .int (v 114 2), .int (v 114 3), .int (v 114 4), .long (z 114 5)])) :: ((a 115), .inr (3, [.int (v 115 0), .int (v 115 1), .int (v 115 2), .int (v 115 3), .int (v 115 4), .long (z 115 5)])) :: ((a 116), .inr (3, [.int (v 116 0), .int (v 116 1), .int (v 116 2), .int (v 116 3), .int (v 116 4), .long (z 116 5)])) :: ((a 117), .inr (3, [.int (v 117 0), .int (v 117 1), .int (v 117 2), .int (v 117 3), .int (v 117 4), .long (z 117 5)])) :: ((a 118), .inr (3, [.int (v 118 0), .int (v 118 1), .int (v 118 2), .int (v 118 3), .int (v 118 4), .long (z 118 5)])) :: ((a 119), .inl ((k 119), 50, .inl (f 119))) :: ((a 120), .inl ((k 120), 7, .inr (.inl (g 120)))) :: [])
def xL (a : Nat → Nat) : List Nat := (a 0 :: a 1 :: a 2 :: a 3 :: a 4 :: a 5 :: a 6 :: a 7 :: a 8 :: a 9 :: a 10 :: a 11 :: a 12 :: a 13 :: a 14 :: a 15 :: a 16 :: a 17 :: a 18 :: a 19 :: a 20 :: a 21 :: a 22 :: a 23 :: a 24 :: a 25 :: a 26 :: a 27 :: a 28 :: a 29 :: a 30 :: a 31 :: a 32 :: a 33 :: a 34 :: a 35 :: a 36 :: a 37 :: a 38 :: a 39 :: a 40 :: a 41 :: a 42 :: a 43 :: a 44 :: a 45 :: a 46 :: a 47 :: a 48 :: a 49 :: a 50 :: a 51 :: a 52 :: a 53 :: a 54 :: a 55 :: a 56 :: a 57 :: a 58 :: a 59 :: a 60 :: a 61 :: a 62 :: a 63 :: a 64 :: a 65 :: a 66 :: a 67 :: a 68 :: a 69 :: a 70 :: a 71 :: a 72 :: a 73 :: a 74 :: a 75 :: a 76 :: a 77 :: a 78 :: a 79 :: a 80 :: a 81 :: a 82 :: a 83 :: a 84 :: a 85 :: a 86 :: a 87 :: a 88 :: a 89 :: a 90 :: a 91 :: a 92 :: a 93 :: a 94 :: a 95 :: a 96 :: a 97 :: a 98 :: a 99 :: a 100 :: a 101 :: a 102 :: a 103 :: a 104 :: a 105 :: a 106 :: a 107 :: a 108 :: a 109 :: a 110 :: a 111 :: a 112 :: a 113 :: a 114 :: a 115 :: a 116 :: a 117 :: a 118 :: a 119 :: a 120 :: [])
def xK (k : Nat → ClassId) : List (ClassId × FieldType) := (((k 1), .int) :: ((k 6), .object RX9) :: ((k 8), .int) :: ((k 10), .int) :: ((k 12), .int) :: ((k 14), .int) :: ((k 16), .int) :: ((k 18), .int) :: ((k 20), .int) :: ((k 21), .int) :: ((k 22), .int) :: ((k 23), .int) :: ((k 25), .int) :: ((k 26), .int) :: ((k 27), .int) :: ((k 28), .int) :: ((k 32), .int) :: ((k 33), .int) :: ((k 34), .int) :: ((k 35), .int) :: ((k 37), .object RX3) :: ((k 58), .object RX4) :: ((k 61), .int) :: ((k 62), .int) :: ((k 63), .int) :: ((k 64), .int) :: ((k 67), .int) :: ((k 68), .int) :: ((k 69), .int) :: ((k 70), .int) :: ((k 73), .int) :: ((k 74), .int) :: ((k 75), .int) :: ((k 76), .int) :: ((k 79), .int) :: ((k 80), .int) :: ((k 81), .int) :: ((k 82), .int) :: ((k 85), .int) :: ((k 86), .int) :: ((k 87), .int) :: ((k 88), .int) :: ((k 91), .int) :: ((k 92), .int) :: ((k 93), .int) :: ((k 94), .int) :: ((k 97), .int) :: ((k 98), .int) :: ((k 99), .int) :: ((k 100), .int) :: ((k 103), .int) :: ((k 104), .int) :: ((k 105), .int) :: ((k 106), .int) :: ((k 108), .long) :: ((k 109), .long) :: ((k 111), .object RX3) :: ((k 112), .int) :: ((k 113), .int) :: ((k 119), .int) :: ((k 120), .long) :: [])
theorem xW_L {a : Nat → Nat} {k : Nat → ClassId} {q : Nat → Nat → Option Nat} {v : Nat → Nat → Int32} {z : Nat → Nat → Int64} {w : Nat → Nat → Value} {f : Nat → Nat → Int32} {g : Nat → Nat → Int64} : (xW a k q v z w f g).map (fun c => c.1) = xL a := rfl
def xI (x : Int32) (md ix : Nat → Int32) (v : Nat → Nat → Int32) (f : Nat → Nat → Int32) : Prop := v 0 18 = x ∧ (v 59 0 = md 0 ∧ v 71 0 = md 1 ∧ v 83 0 = md 2 ∧ v 95 0 = md 3) ∧ (v 59 5 = ix 0 ∧ v 71 5 = ix 1 ∧ v 83 5 = ix 2 ∧ v 95 5 = ix 3)
def xQl : List (Nat × Nat × Nat) := ((6, 0, 7) :: (6, 1, 9) :: (6, 2, 11) :: (6, 3, 13) :: (6, 4, 15) :: (6, 5, 17) :: (37, 0, 38) :: (37, 1, 39) :: (37, 2, 40) :: (37, 3, 41) :: (37, 4, 42) :: (37, 5, 43) :: (37, 6, 44) :: (37, 7, 45) :: (37, 8, 46) :: (37, 9, 47) :: (37, 10, 48) :: (37, 11, 49) :: (37, 12, 50) :: (37, 13, 51) :: (37, 14, 52) :: (37, 15, 53) :: (37, 16, 54) :: (37, 17, 55) :: (37, 18, 56) :: (37, 19, 57) :: (58, 0, 59) :: (58, 1, 71) :: (58, 2, 83) :: (58, 3, 95) :: (111, 0, 114) :: (111, 1, 115) :: (111, 2, 116) :: (111, 3, 117) :: (111, 4, 118) :: [])
def xQ (a : Nat → Nat) (q : Nat → Nat → Option Nat) : Prop := xQl.map (fun t => q t.1 t.2.1) = xQl.map (fun t => some (a t.2.2))
theorem xQ_at {a : Nat → Nat} {q : Nat → Nat → Option Nat} (h : xQ a q) {i : Nat} {t : Nat × Nat × Nat} (hi : xQl[i]? = some t) : q t.1 t.2.1 = some (a t.2.2) := by
  have g := congrArg (fun l => l[i]?) h
  simp only [List.getElem?_map, hi] at g
  exact Option.some.inj g
def xP (dC : Nat → ClassId) (dI : Nat → Nat → Nat) (a : Nat → Nat) (k : Nat → ClassId) (q : Nat → Nat → Option Nat) (x : Int32) (md ix : Nat → Int32) (H : Heap) : Prop := ∃ (v : Nat → Nat → Int32) (z : Nat → Nat → Int64) (w : Nat → Nat → Value) (f : Nat → Nat → Int32) (g : Nat → Nat → Int64), xI x md ix v f ∧ va_P (dC, dI) classes (xW a k q v z w f g) H
def xS (dC : Nat → ClassId) (dI : Nat → Nat → Nat) (sz : Nat) (kA vA : Nat → Nat) (a : Nat → Nat) (k : Nat → ClassId) (q : Nat → Nat → Option Nat) (x : Int32) (md ix : Nat → Int32) (U : State) : Prop := U.heap.size = sz ∧ xP dC dI a k q x md ix U.heap ∧ va_K (dC, dI) classes (xK k) U ∧ xE U ∧ xT kA vA (inL (xL a) sz) U U.heap
def uxx (v : Nat → Nat → Int32) (n : Nat) (r : Nat → Int32) : Nat → Nat → Int32 := fun i j => cond (Nat.beq i n) (r j) (v i j)
def uzx (v : Nat → Nat → Int64) (n : Nat) (r : Nat → Int64) : Nat → Nat → Int64 := fun i j => cond (Nat.beq i n) (r j) (v i j)
def uwx (v : Nat → Nat → Value) (n : Nat) (r : Nat → Value) : Nat → Nat → Value := fun i j => cond (Nat.beq i n) (r j) (v i j)
section
variable {a : Nat → Nat} {k : Nat → ClassId} {q : Nat → Nat → Option Nat} {v : Nat → Nat → Int32} {z : Nat → Nat → Int64} {w : Nat → Nat → Value} {f : Nat → Nat → Int32} {g : Nat → Nat → Int64} {X : va_W}
set_option maxHeartbeats 4000000 in
set_option maxRecDepth 100000 in
theorem xs_0 (e : X = xW a k q v z w f g) (y1 : Int32) (y5 : Int32) (y6 : Int32) (y18 : Int32) : X.set 0 ((a 0), .inr (11, [.ref (a 1), .int y1, .ref (a 2), .ref (a 4), .ref (a 6), .int y5, .int y6, .ref (a 19), .ref (a 24), .ref (a 29), .ref (a 30), .ref (a 31), .ref (a 36), .ref (a 58), .ref (a 107), .ref (a 110), .ref (a 119), .ref (a 120), .int y18])) = xW a k q (uxx v 0 (fun j => [0, y1, 0, 0, 0, y5, y6, 0, 0, 0, 0, 0, 0, 0, 0, 0, 0, 0, y18].getD j 0)) z w f g := by
  rw [e]; rfl
set_option maxHeartbeats 4000000 in
set_option maxRecDepth 100000 in
theorem xs_1 (e : X = xW a k q v z w f g) (y : Nat → Int32) : X.set 1 ((a 1), .inl ((k 1), 400, .inl y)) = xW a k q v z w (fun i => cond (Nat.beq i 1) y (f i)) g := by
  rw [e]; rfl
set_option maxHeartbeats 4000000 in
set_option maxRecDepth 100000 in
theorem xs_2 (e : X = xW a k q v z w f g) : X.set 2 ((a 2), .inr (2, [.ref (a 3)])) = xW a k q v z w f g := by
  rw [e]; rfl
set_option maxHeartbeats 4000000 in
set_option maxRecDepth 100000 in
theorem xs_3 (e : X = xW a k q v z w f g) (y0 : Value) (y1 : Int32) (y2 : Int32) (y3 : Int32) : X.set 3 ((a 3), .inr (7, [y0, .int y1, .int y2, .int y3])) = xW a k q (uxx v 3 (fun j => [0, y1, y2, y3].getD j 0)) z (uwx w 3 (fun j => [y0, .null, .null, .null].getD j .null)) f g := by
  rw [e]; rfl
set_option maxHeartbeats 4000000 in
set_option maxRecDepth 100000 in
theorem xs_4 (e : X = xW a k q v z w f g) (y1 : Value) (y2 : Int32) : X.set 4 ((a 4), .inr (10, [.ref (a 5), y1, .int y2])) = xW a k q (uxx v 4 (fun j => [0, 0, y2].getD j 0)) z (uwx w 4 (fun j => [.null, y1, .null].getD j .null)) f g := by
  rw [e]; rfl
set_option maxHeartbeats 4000000 in
set_option maxRecDepth 100000 in
theorem xs_5 (e : X = xW a k q v z w f g) (y0 : Value) (y1 : Int32) (y2 : Int32) (y3 : Int32) : X.set 5 ((a 5), .inr (7, [y0, .int y1, .int y2, .int y3])) = xW a k q (uxx v 5 (fun j => [0, y1, y2, y3].getD j 0)) z (uwx w 5 (fun j => [y0, .null, .null, .null].getD j .null)) f g := by
  rw [e]; rfl
set_option maxHeartbeats 4000000 in
set_option maxRecDepth 100000 in
theorem xs_6 (e : X = xW a k q v z w f g) : X.set 6 ((a 6), .inl ((k 6), 6, .inr (.inr (.inr (.inr (q 6)))))) = xW a k q v z w f g := by
  rw [e]; rfl
set_option maxHeartbeats 4000000 in
set_option maxRecDepth 100000 in
theorem xs_7 (e : X = xW a k q v z w f g) (y1 : Int32) (y2 : Int32) : X.set 7 ((a 7), .inr (9, [.ref (a 8), .int y1, .int y2])) = xW a k q (uxx v 7 (fun j => [0, y1, y2].getD j 0)) z w f g := by
  rw [e]; rfl
set_option maxHeartbeats 4000000 in
set_option maxRecDepth 100000 in
theorem xs_8 (e : X = xW a k q v z w f g) (y : Nat → Int32) : X.set 8 ((a 8), .inl ((k 8), 400, .inl y)) = xW a k q v z w (fun i => cond (Nat.beq i 8) y (f i)) g := by
  rw [e]; rfl
set_option maxHeartbeats 4000000 in
set_option maxRecDepth 100000 in
theorem xs_9 (e : X = xW a k q v z w f g) (y1 : Int32) (y2 : Int32) : X.set 9 ((a 9), .inr (9, [.ref (a 10), .int y1, .int y2])) = xW a k q (uxx v 9 (fun j => [0, y1, y2].getD j 0)) z w f g := by
  rw [e]; rfl
set_option maxHeartbeats 4000000 in
set_option maxRecDepth 100000 in
theorem xs_10 (e : X = xW a k q v z w f g) (y : Nat → Int32) : X.set 10 ((a 10), .inl ((k 10), 400, .inl y)) = xW a k q v z w (fun i => cond (Nat.beq i 10) y (f i)) g := by
  rw [e]; rfl
set_option maxHeartbeats 4000000 in
set_option maxRecDepth 100000 in
theorem xs_11 (e : X = xW a k q v z w f g) (y1 : Int32) (y2 : Int32) : X.set 11 ((a 11), .inr (9, [.ref (a 12), .int y1, .int y2])) = xW a k q (uxx v 11 (fun j => [0, y1, y2].getD j 0)) z w f g := by
  rw [e]; rfl
set_option maxHeartbeats 4000000 in
set_option maxRecDepth 100000 in
theorem xs_12 (e : X = xW a k q v z w f g) (y : Nat → Int32) : X.set 12 ((a 12), .inl ((k 12), 400, .inl y)) = xW a k q v z w (fun i => cond (Nat.beq i 12) y (f i)) g := by
  rw [e]; rfl
set_option maxHeartbeats 4000000 in
set_option maxRecDepth 100000 in
theorem xs_13 (e : X = xW a k q v z w f g) (y1 : Int32) (y2 : Int32) : X.set 13 ((a 13), .inr (9, [.ref (a 14), .int y1, .int y2])) = xW a k q (uxx v 13 (fun j => [0, y1, y2].getD j 0)) z w f g := by
  rw [e]; rfl
set_option maxHeartbeats 4000000 in
set_option maxRecDepth 100000 in
theorem xs_14 (e : X = xW a k q v z w f g) (y : Nat → Int32) : X.set 14 ((a 14), .inl ((k 14), 400, .inl y)) = xW a k q v z w (fun i => cond (Nat.beq i 14) y (f i)) g := by
  rw [e]; rfl
set_option maxHeartbeats 4000000 in
set_option maxRecDepth 100000 in
theorem xs_15 (e : X = xW a k q v z w f g) (y1 : Int32) (y2 : Int32) : X.set 15 ((a 15), .inr (9, [.ref (a 16), .int y1, .int y2])) = xW a k q (uxx v 15 (fun j => [0, y1, y2].getD j 0)) z w f g := by
  rw [e]; rfl
set_option maxHeartbeats 4000000 in
set_option maxRecDepth 100000 in
theorem xs_16 (e : X = xW a k q v z w f g) (y : Nat → Int32) : X.set 16 ((a 16), .inl ((k 16), 400, .inl y)) = xW a k q v z w (fun i => cond (Nat.beq i 16) y (f i)) g := by
  rw [e]; rfl
set_option maxHeartbeats 4000000 in
set_option maxRecDepth 100000 in
theorem xs_17 (e : X = xW a k q v z w f g) (y1 : Int32) (y2 : Int32) : X.set 17 ((a 17), .inr (9, [.ref (a 18), .int y1, .int y2])) = xW a k q (uxx v 17 (fun j => [0, y1, y2].getD j 0)) z w f g := by
  rw [e]; rfl
set_option maxHeartbeats 4000000 in
set_option maxRecDepth 100000 in
theorem xs_18 (e : X = xW a k q v z w f g) (y : Nat → Int32) : X.set 18 ((a 18), .inl ((k 18), 400, .inl y)) = xW a k q v z w (fun i => cond (Nat.beq i 18) y (f i)) g := by
  rw [e]; rfl
set_option maxHeartbeats 4000000 in
set_option maxRecDepth 100000 in
theorem xs_19 (e : X = xW a k q v z w f g) (y0 : Int32) (y1 : Int32) (y2 : Int32) : X.set 19 ((a 19), .inr (1, [.int y0, .int y1, .int y2, .ref (a 20), .ref (a 21), .ref (a 22), .ref (a 23)])) = xW a k q (uxx v 19 (fun j => [y0, y1, y2, 0, 0, 0, 0].getD j 0)) z w f g := by
  rw [e]; rfl
set_option maxHeartbeats 4000000 in
set_option maxRecDepth 100000 in
theorem xs_20 (e : X = xW a k q v z w f g) (y : Nat → Int32) : X.set 20 ((a 20), .inl ((k 20), 8, .inl y)) = xW a k q v z w (fun i => cond (Nat.beq i 20) y (f i)) g := by
  rw [e]; rfl
set_option maxHeartbeats 4000000 in
set_option maxRecDepth 100000 in
theorem xs_21 (e : X = xW a k q v z w f g) (y : Nat → Int32) : X.set 21 ((a 21), .inl ((k 21), 8, .inl y)) = xW a k q v z w (fun i => cond (Nat.beq i 21) y (f i)) g := by
  rw [e]; rfl
set_option maxHeartbeats 4000000 in
set_option maxRecDepth 100000 in
theorem xs_22 (e : X = xW a k q v z w f g) (y : Nat → Int32) : X.set 22 ((a 22), .inl ((k 22), 8, .inl y)) = xW a k q v z w (fun i => cond (Nat.beq i 22) y (f i)) g := by
  rw [e]; rfl
set_option maxHeartbeats 4000000 in
set_option maxRecDepth 100000 in
theorem xs_23 (e : X = xW a k q v z w f g) (y : Nat → Int32) : X.set 23 ((a 23), .inl ((k 23), 8, .inl y)) = xW a k q v z w (fun i => cond (Nat.beq i 23) y (f i)) g := by
  rw [e]; rfl
set_option maxHeartbeats 4000000 in
set_option maxRecDepth 100000 in
theorem xs_24 (e : X = xW a k q v z w f g) (y0 : Int32) (y1 : Int32) (y2 : Int32) : X.set 24 ((a 24), .inr (1, [.int y0, .int y1, .int y2, .ref (a 25), .ref (a 26), .ref (a 27), .ref (a 28)])) = xW a k q (uxx v 24 (fun j => [y0, y1, y2, 0, 0, 0, 0].getD j 0)) z w f g := by
  rw [e]; rfl
set_option maxHeartbeats 4000000 in
set_option maxRecDepth 100000 in
theorem xs_25 (e : X = xW a k q v z w f g) (y : Nat → Int32) : X.set 25 ((a 25), .inl ((k 25), 8, .inl y)) = xW a k q v z w (fun i => cond (Nat.beq i 25) y (f i)) g := by
  rw [e]; rfl
set_option maxHeartbeats 4000000 in
set_option maxRecDepth 100000 in
theorem xs_26 (e : X = xW a k q v z w f g) (y : Nat → Int32) : X.set 26 ((a 26), .inl ((k 26), 8, .inl y)) = xW a k q v z w (fun i => cond (Nat.beq i 26) y (f i)) g := by
  rw [e]; rfl
set_option maxHeartbeats 4000000 in
set_option maxRecDepth 100000 in
theorem xs_27 (e : X = xW a k q v z w f g) (y : Nat → Int32) : X.set 27 ((a 27), .inl ((k 27), 8, .inl y)) = xW a k q v z w (fun i => cond (Nat.beq i 27) y (f i)) g := by
  rw [e]; rfl
set_option maxHeartbeats 4000000 in
set_option maxRecDepth 100000 in
theorem xs_28 (e : X = xW a k q v z w f g) (y : Nat → Int32) : X.set 28 ((a 28), .inl ((k 28), 8, .inl y)) = xW a k q v z w (fun i => cond (Nat.beq i 28) y (f i)) g := by
  rw [e]; rfl
set_option maxHeartbeats 4000000 in
set_option maxRecDepth 100000 in
theorem xs_29 (e : X = xW a k q v z w f g) (y0 : Int32) (y1 : Int32) (y2 : Int32) (y3 : Int32) (y4 : Int32) (y5 : Int64) : X.set 29 ((a 29), .inr (3, [.int y0, .int y1, .int y2, .int y3, .int y4, .long y5])) = xW a k q (uxx v 29 (fun j => [y0, y1, y2, y3, y4, 0].getD j 0)) (uzx z 29 (fun j => [0, 0, 0, 0, 0, y5].getD j 0)) w f g := by
  rw [e]; rfl
set_option maxHeartbeats 4000000 in
set_option maxRecDepth 100000 in
theorem xs_30 (e : X = xW a k q v z w f g) (y0 : Int32) (y1 : Int32) (y2 : Int32) (y3 : Int32) (y4 : Int32) (y5 : Int64) : X.set 30 ((a 30), .inr (3, [.int y0, .int y1, .int y2, .int y3, .int y4, .long y5])) = xW a k q (uxx v 30 (fun j => [y0, y1, y2, y3, y4, 0].getD j 0)) (uzx z 30 (fun j => [0, 0, 0, 0, 0, y5].getD j 0)) w f g := by
  rw [e]; rfl
set_option maxHeartbeats 4000000 in
set_option maxRecDepth 100000 in
theorem xs_31 (e : X = xW a k q v z w f g) (y0 : Int32) : X.set 31 ((a 31), .inr (5, [.int y0, .ref (a 32), .ref (a 33), .ref (a 34), .ref (a 35)])) = xW a k q (uxx v 31 (fun j => [y0, 0, 0, 0, 0].getD j 0)) z w f g := by
  rw [e]; rfl
set_option maxHeartbeats 4000000 in
set_option maxRecDepth 100000 in
theorem xs_32 (e : X = xW a k q v z w f g) (y : Nat → Int32) : X.set 32 ((a 32), .inl ((k 32), 10, .inl y)) = xW a k q v z w (fun i => cond (Nat.beq i 32) y (f i)) g := by
  rw [e]; rfl
set_option maxHeartbeats 4000000 in
set_option maxRecDepth 100000 in
theorem xs_33 (e : X = xW a k q v z w f g) (y : Nat → Int32) : X.set 33 ((a 33), .inl ((k 33), 10, .inl y)) = xW a k q v z w (fun i => cond (Nat.beq i 33) y (f i)) g := by
  rw [e]; rfl
set_option maxHeartbeats 4000000 in
set_option maxRecDepth 100000 in
theorem xs_34 (e : X = xW a k q v z w f g) (y : Nat → Int32) : X.set 34 ((a 34), .inl ((k 34), 10, .inl y)) = xW a k q v z w (fun i => cond (Nat.beq i 34) y (f i)) g := by
  rw [e]; rfl
set_option maxHeartbeats 4000000 in
set_option maxRecDepth 100000 in
theorem xs_35 (e : X = xW a k q v z w f g) (y : Nat → Int32) : X.set 35 ((a 35), .inl ((k 35), 10, .inl y)) = xW a k q v z w (fun i => cond (Nat.beq i 35) y (f i)) g := by
  rw [e]; rfl
set_option maxHeartbeats 4000000 in
set_option maxRecDepth 100000 in
theorem xs_36 (e : X = xW a k q v z w f g) (y1 : Int32) (y2 : Int32) : X.set 36 ((a 36), .inr (6, [.ref (a 37), .int y1, .int y2])) = xW a k q (uxx v 36 (fun j => [0, y1, y2].getD j 0)) z w f g := by
  rw [e]; rfl
set_option maxHeartbeats 4000000 in
set_option maxRecDepth 100000 in
theorem xs_37 (e : X = xW a k q v z w f g) : X.set 37 ((a 37), .inl ((k 37), 20, .inr (.inr (.inr (.inr (q 37)))))) = xW a k q v z w f g := by
  rw [e]; rfl
set_option maxHeartbeats 4000000 in
set_option maxRecDepth 100000 in
theorem xs_38 (e : X = xW a k q v z w f g) (y0 : Int32) (y1 : Int32) (y2 : Int32) (y3 : Int32) (y4 : Int32) (y5 : Int64) : X.set 38 ((a 38), .inr (3, [.int y0, .int y1, .int y2, .int y3, .int y4, .long y5])) = xW a k q (uxx v 38 (fun j => [y0, y1, y2, y3, y4, 0].getD j 0)) (uzx z 38 (fun j => [0, 0, 0, 0, 0, y5].getD j 0)) w f g := by
  rw [e]; rfl
set_option maxHeartbeats 4000000 in
set_option maxRecDepth 100000 in
theorem xs_39 (e : X = xW a k q v z w f g) (y0 : Int32) (y1 : Int32) (y2 : Int32) (y3 : Int32) (y4 : Int32) (y5 : Int64) : X.set 39 ((a 39), .inr (3, [.int y0, .int y1, .int y2, .int y3, .int y4, .long y5])) = xW a k q (uxx v 39 (fun j => [y0, y1, y2, y3, y4, 0].getD j 0)) (uzx z 39 (fun j => [0, 0, 0, 0, 0, y5].getD j 0)) w f g := by
  rw [e]; rfl
set_option maxHeartbeats 4000000 in
set_option maxRecDepth 100000 in
theorem xs_40 (e : X = xW a k q v z w f g) (y0 : Int32) (y1 : Int32) (y2 : Int32) (y3 : Int32) (y4 : Int32) (y5 : Int64) : X.set 40 ((a 40), .inr (3, [.int y0, .int y1, .int y2, .int y3, .int y4, .long y5])) = xW a k q (uxx v 40 (fun j => [y0, y1, y2, y3, y4, 0].getD j 0)) (uzx z 40 (fun j => [0, 0, 0, 0, 0, y5].getD j 0)) w f g := by
  rw [e]; rfl
set_option maxHeartbeats 4000000 in
set_option maxRecDepth 100000 in
theorem xs_41 (e : X = xW a k q v z w f g) (y0 : Int32) (y1 : Int32) (y2 : Int32) (y3 : Int32) (y4 : Int32) (y5 : Int64) : X.set 41 ((a 41), .inr (3, [.int y0, .int y1, .int y2, .int y3, .int y4, .long y5])) = xW a k q (uxx v 41 (fun j => [y0, y1, y2, y3, y4, 0].getD j 0)) (uzx z 41 (fun j => [0, 0, 0, 0, 0, y5].getD j 0)) w f g := by
  rw [e]; rfl
set_option maxHeartbeats 4000000 in
set_option maxRecDepth 100000 in
theorem xs_42 (e : X = xW a k q v z w f g) (y0 : Int32) (y1 : Int32) (y2 : Int32) (y3 : Int32) (y4 : Int32) (y5 : Int64) : X.set 42 ((a 42), .inr (3, [.int y0, .int y1, .int y2, .int y3, .int y4, .long y5])) = xW a k q (uxx v 42 (fun j => [y0, y1, y2, y3, y4, 0].getD j 0)) (uzx z 42 (fun j => [0, 0, 0, 0, 0, y5].getD j 0)) w f g := by
  rw [e]; rfl
set_option maxHeartbeats 4000000 in
set_option maxRecDepth 100000 in
theorem xs_43 (e : X = xW a k q v z w f g) (y0 : Int32) (y1 : Int32) (y2 : Int32) (y3 : Int32) (y4 : Int32) (y5 : Int64) : X.set 43 ((a 43), .inr (3, [.int y0, .int y1, .int y2, .int y3, .int y4, .long y5])) = xW a k q (uxx v 43 (fun j => [y0, y1, y2, y3, y4, 0].getD j 0)) (uzx z 43 (fun j => [0, 0, 0, 0, 0, y5].getD j 0)) w f g := by
  rw [e]; rfl
set_option maxHeartbeats 4000000 in
set_option maxRecDepth 100000 in
theorem xs_44 (e : X = xW a k q v z w f g) (y0 : Int32) (y1 : Int32) (y2 : Int32) (y3 : Int32) (y4 : Int32) (y5 : Int64) : X.set 44 ((a 44), .inr (3, [.int y0, .int y1, .int y2, .int y3, .int y4, .long y5])) = xW a k q (uxx v 44 (fun j => [y0, y1, y2, y3, y4, 0].getD j 0)) (uzx z 44 (fun j => [0, 0, 0, 0, 0, y5].getD j 0)) w f g := by
  rw [e]; rfl
set_option maxHeartbeats 4000000 in
set_option maxRecDepth 100000 in
theorem xs_45 (e : X = xW a k q v z w f g) (y0 : Int32) (y1 : Int32) (y2 : Int32) (y3 : Int32) (y4 : Int32) (y5 : Int64) : X.set 45 ((a 45), .inr (3, [.int y0, .int y1, .int y2, .int y3, .int y4, .long y5])) = xW a k q (uxx v 45 (fun j => [y0, y1, y2, y3, y4, 0].getD j 0)) (uzx z 45 (fun j => [0, 0, 0, 0, 0, y5].getD j 0)) w f g := by
  rw [e]; rfl
set_option maxHeartbeats 4000000 in
set_option maxRecDepth 100000 in
theorem xs_46 (e : X = xW a k q v z w f g) (y0 : Int32) (y1 : Int32) (y2 : Int32) (y3 : Int32) (y4 : Int32) (y5 : Int64) : X.set 46 ((a 46), .inr (3, [.int y0, .int y1, .int y2, .int y3, .int y4, .long y5])) = xW a k q (uxx v 46 (fun j => [y0, y1, y2, y3, y4, 0].getD j 0)) (uzx z 46 (fun j => [0, 0, 0, 0, 0, y5].getD j 0)) w f g := by
  rw [e]; rfl
set_option maxHeartbeats 4000000 in
set_option maxRecDepth 100000 in
theorem xs_47 (e : X = xW a k q v z w f g) (y0 : Int32) (y1 : Int32) (y2 : Int32) (y3 : Int32) (y4 : Int32) (y5 : Int64) : X.set 47 ((a 47), .inr (3, [.int y0, .int y1, .int y2, .int y3, .int y4, .long y5])) = xW a k q (uxx v 47 (fun j => [y0, y1, y2, y3, y4, 0].getD j 0)) (uzx z 47 (fun j => [0, 0, 0, 0, 0, y5].getD j 0)) w f g := by
  rw [e]; rfl
set_option maxHeartbeats 4000000 in
set_option maxRecDepth 100000 in
theorem xs_48 (e : X = xW a k q v z w f g) (y0 : Int32) (y1 : Int32) (y2 : Int32) (y3 : Int32) (y4 : Int32) (y5 : Int64) : X.set 48 ((a 48), .inr (3, [.int y0, .int y1, .int y2, .int y3, .int y4, .long y5])) = xW a k q (uxx v 48 (fun j => [y0, y1, y2, y3, y4, 0].getD j 0)) (uzx z 48 (fun j => [0, 0, 0, 0, 0, y5].getD j 0)) w f g := by
  rw [e]; rfl
set_option maxHeartbeats 4000000 in
set_option maxRecDepth 100000 in
theorem xs_49 (e : X = xW a k q v z w f g) (y0 : Int32) (y1 : Int32) (y2 : Int32) (y3 : Int32) (y4 : Int32) (y5 : Int64) : X.set 49 ((a 49), .inr (3, [.int y0, .int y1, .int y2, .int y3, .int y4, .long y5])) = xW a k q (uxx v 49 (fun j => [y0, y1, y2, y3, y4, 0].getD j 0)) (uzx z 49 (fun j => [0, 0, 0, 0, 0, y5].getD j 0)) w f g := by
  rw [e]; rfl
set_option maxHeartbeats 4000000 in
set_option maxRecDepth 100000 in
theorem xs_50 (e : X = xW a k q v z w f g) (y0 : Int32) (y1 : Int32) (y2 : Int32) (y3 : Int32) (y4 : Int32) (y5 : Int64) : X.set 50 ((a 50), .inr (3, [.int y0, .int y1, .int y2, .int y3, .int y4, .long y5])) = xW a k q (uxx v 50 (fun j => [y0, y1, y2, y3, y4, 0].getD j 0)) (uzx z 50 (fun j => [0, 0, 0, 0, 0, y5].getD j 0)) w f g := by
  rw [e]; rfl
set_option maxHeartbeats 4000000 in
set_option maxRecDepth 100000 in
theorem xs_51 (e : X = xW a k q v z w f g) (y0 : Int32) (y1 : Int32) (y2 : Int32) (y3 : Int32) (y4 : Int32) (y5 : Int64) : X.set 51 ((a 51), .inr (3, [.int y0, .int y1, .int y2, .int y3, .int y4, .long y5])) = xW a k q (uxx v 51 (fun j => [y0, y1, y2, y3, y4, 0].getD j 0)) (uzx z 51 (fun j => [0, 0, 0, 0, 0, y5].getD j 0)) w f g := by
  rw [e]; rfl
set_option maxHeartbeats 4000000 in
set_option maxRecDepth 100000 in
theorem xs_52 (e : X = xW a k q v z w f g) (y0 : Int32) (y1 : Int32) (y2 : Int32) (y3 : Int32) (y4 : Int32) (y5 : Int64) : X.set 52 ((a 52), .inr (3, [.int y0, .int y1, .int y2, .int y3, .int y4, .long y5])) = xW a k q (uxx v 52 (fun j => [y0, y1, y2, y3, y4, 0].getD j 0)) (uzx z 52 (fun j => [0, 0, 0, 0, 0, y5].getD j 0)) w f g := by
  rw [e]; rfl
set_option maxHeartbeats 4000000 in
set_option maxRecDepth 100000 in
theorem xs_53 (e : X = xW a k q v z w f g) (y0 : Int32) (y1 : Int32) (y2 : Int32) (y3 : Int32) (y4 : Int32) (y5 : Int64) : X.set 53 ((a 53), .inr (3, [.int y0, .int y1, .int y2, .int y3, .int y4, .long y5])) = xW a k q (uxx v 53 (fun j => [y0, y1, y2, y3, y4, 0].getD j 0)) (uzx z 53 (fun j => [0, 0, 0, 0, 0, y5].getD j 0)) w f g := by
  rw [e]; rfl
set_option maxHeartbeats 4000000 in
set_option maxRecDepth 100000 in
theorem xs_54 (e : X = xW a k q v z w f g) (y0 : Int32) (y1 : Int32) (y2 : Int32) (y3 : Int32) (y4 : Int32) (y5 : Int64) : X.set 54 ((a 54), .inr (3, [.int y0, .int y1, .int y2, .int y3, .int y4, .long y5])) = xW a k q (uxx v 54 (fun j => [y0, y1, y2, y3, y4, 0].getD j 0)) (uzx z 54 (fun j => [0, 0, 0, 0, 0, y5].getD j 0)) w f g := by
  rw [e]; rfl
set_option maxHeartbeats 4000000 in
set_option maxRecDepth 100000 in
theorem xs_55 (e : X = xW a k q v z w f g) (y0 : Int32) (y1 : Int32) (y2 : Int32) (y3 : Int32) (y4 : Int32) (y5 : Int64) : X.set 55 ((a 55), .inr (3, [.int y0, .int y1, .int y2, .int y3, .int y4, .long y5])) = xW a k q (uxx v 55 (fun j => [y0, y1, y2, y3, y4, 0].getD j 0)) (uzx z 55 (fun j => [0, 0, 0, 0, 0, y5].getD j 0)) w f g := by
  rw [e]; rfl
set_option maxHeartbeats 4000000 in
set_option maxRecDepth 100000 in
theorem xs_56 (e : X = xW a k q v z w f g) (y0 : Int32) (y1 : Int32) (y2 : Int32) (y3 : Int32) (y4 : Int32) (y5 : Int64) : X.set 56 ((a 56), .inr (3, [.int y0, .int y1, .int y2, .int y3, .int y4, .long y5])) = xW a k q (uxx v 56 (fun j => [y0, y1, y2, y3, y4, 0].getD j 0)) (uzx z 56 (fun j => [0, 0, 0, 0, 0, y5].getD j 0)) w f g := by
  rw [e]; rfl
set_option maxHeartbeats 4000000 in
set_option maxRecDepth 100000 in
theorem xs_57 (e : X = xW a k q v z w f g) (y0 : Int32) (y1 : Int32) (y2 : Int32) (y3 : Int32) (y4 : Int32) (y5 : Int64) : X.set 57 ((a 57), .inr (3, [.int y0, .int y1, .int y2, .int y3, .int y4, .long y5])) = xW a k q (uxx v 57 (fun j => [y0, y1, y2, y3, y4, 0].getD j 0)) (uzx z 57 (fun j => [0, 0, 0, 0, 0, y5].getD j 0)) w f g := by
  rw [e]; rfl
set_option maxHeartbeats 4000000 in
set_option maxRecDepth 100000 in
theorem xs_58 (e : X = xW a k q v z w f g) : X.set 58 ((a 58), .inl ((k 58), 4, .inr (.inr (.inr (.inr (q 58)))))) = xW a k q v z w f g := by
  rw [e]; rfl
set_option maxHeartbeats 4000000 in
set_option maxRecDepth 100000 in
theorem xs_59 (e : X = xW a k q v z w f g) (y0 : Int32) (y4 : Int32) (y5 : Int32) : X.set 59 ((a 59), .inr (4, [.int y0, .ref (a 60), .ref (a 65), .ref (a 66), .int y4, .int y5])) = xW a k q (uxx v 59 (fun j => [y0, 0, 0, 0, y4, y5].getD j 0)) z w f g := by
  rw [e]; rfl
set_option maxHeartbeats 4000000 in
set_option maxRecDepth 100000 in
theorem xs_60 (e : X = xW a k q v z w f g) (y0 : Int32) (y1 : Int32) (y2 : Int32) : X.set 60 ((a 60), .inr (1, [.int y0, .int y1, .int y2, .ref (a 61), .ref (a 62), .ref (a 63), .ref (a 64)])) = xW a k q (uxx v 60 (fun j => [y0, y1, y2, 0, 0, 0, 0].getD j 0)) z w f g := by
  rw [e]; rfl
set_option maxHeartbeats 4000000 in
set_option maxRecDepth 100000 in
theorem xs_61 (e : X = xW a k q v z w f g) (y : Nat → Int32) : X.set 61 ((a 61), .inl ((k 61), 8, .inl y)) = xW a k q v z w (fun i => cond (Nat.beq i 61) y (f i)) g := by
  rw [e]; rfl
set_option maxHeartbeats 4000000 in
set_option maxRecDepth 100000 in
theorem xs_62 (e : X = xW a k q v z w f g) (y : Nat → Int32) : X.set 62 ((a 62), .inl ((k 62), 8, .inl y)) = xW a k q v z w (fun i => cond (Nat.beq i 62) y (f i)) g := by
  rw [e]; rfl
set_option maxHeartbeats 4000000 in
set_option maxRecDepth 100000 in
theorem xs_63 (e : X = xW a k q v z w f g) (y : Nat → Int32) : X.set 63 ((a 63), .inl ((k 63), 8, .inl y)) = xW a k q v z w (fun i => cond (Nat.beq i 63) y (f i)) g := by
  rw [e]; rfl
set_option maxHeartbeats 4000000 in
set_option maxRecDepth 100000 in
theorem xs_64 (e : X = xW a k q v z w f g) (y : Nat → Int32) : X.set 64 ((a 64), .inl ((k 64), 8, .inl y)) = xW a k q v z w (fun i => cond (Nat.beq i 64) y (f i)) g := by
  rw [e]; rfl
set_option maxHeartbeats 4000000 in
set_option maxRecDepth 100000 in
theorem xs_65 (e : X = xW a k q v z w f g) (y0 : Int32) (y1 : Int32) (y2 : Int32) (y3 : Int32) (y4 : Int32) (y5 : Int64) : X.set 65 ((a 65), .inr (3, [.int y0, .int y1, .int y2, .int y3, .int y4, .long y5])) = xW a k q (uxx v 65 (fun j => [y0, y1, y2, y3, y4, 0].getD j 0)) (uzx z 65 (fun j => [0, 0, 0, 0, 0, y5].getD j 0)) w f g := by
  rw [e]; rfl
set_option maxHeartbeats 4000000 in
set_option maxRecDepth 100000 in
theorem xs_66 (e : X = xW a k q v z w f g) (y0 : Int32) : X.set 66 ((a 66), .inr (5, [.int y0, .ref (a 67), .ref (a 68), .ref (a 69), .ref (a 70)])) = xW a k q (uxx v 66 (fun j => [y0, 0, 0, 0, 0].getD j 0)) z w f g := by
  rw [e]; rfl
set_option maxHeartbeats 4000000 in
set_option maxRecDepth 100000 in
theorem xs_67 (e : X = xW a k q v z w f g) (y : Nat → Int32) : X.set 67 ((a 67), .inl ((k 67), 10, .inl y)) = xW a k q v z w (fun i => cond (Nat.beq i 67) y (f i)) g := by
  rw [e]; rfl
set_option maxHeartbeats 4000000 in
set_option maxRecDepth 100000 in
theorem xs_68 (e : X = xW a k q v z w f g) (y : Nat → Int32) : X.set 68 ((a 68), .inl ((k 68), 10, .inl y)) = xW a k q v z w (fun i => cond (Nat.beq i 68) y (f i)) g := by
  rw [e]; rfl
set_option maxHeartbeats 4000000 in
set_option maxRecDepth 100000 in
theorem xs_69 (e : X = xW a k q v z w f g) (y : Nat → Int32) : X.set 69 ((a 69), .inl ((k 69), 10, .inl y)) = xW a k q v z w (fun i => cond (Nat.beq i 69) y (f i)) g := by
  rw [e]; rfl
set_option maxHeartbeats 4000000 in
set_option maxRecDepth 100000 in
theorem xs_70 (e : X = xW a k q v z w f g) (y : Nat → Int32) : X.set 70 ((a 70), .inl ((k 70), 10, .inl y)) = xW a k q v z w (fun i => cond (Nat.beq i 70) y (f i)) g := by
  rw [e]; rfl
set_option maxHeartbeats 4000000 in
set_option maxRecDepth 100000 in
theorem xs_71 (e : X = xW a k q v z w f g) (y0 : Int32) (y4 : Int32) (y5 : Int32) : X.set 71 ((a 71), .inr (4, [.int y0, .ref (a 72), .ref (a 77), .ref (a 78), .int y4, .int y5])) = xW a k q (uxx v 71 (fun j => [y0, 0, 0, 0, y4, y5].getD j 0)) z w f g := by
  rw [e]; rfl
set_option maxHeartbeats 4000000 in
set_option maxRecDepth 100000 in
theorem xs_72 (e : X = xW a k q v z w f g) (y0 : Int32) (y1 : Int32) (y2 : Int32) : X.set 72 ((a 72), .inr (1, [.int y0, .int y1, .int y2, .ref (a 73), .ref (a 74), .ref (a 75), .ref (a 76)])) = xW a k q (uxx v 72 (fun j => [y0, y1, y2, 0, 0, 0, 0].getD j 0)) z w f g := by
  rw [e]; rfl
set_option maxHeartbeats 4000000 in
set_option maxRecDepth 100000 in
theorem xs_73 (e : X = xW a k q v z w f g) (y : Nat → Int32) : X.set 73 ((a 73), .inl ((k 73), 8, .inl y)) = xW a k q v z w (fun i => cond (Nat.beq i 73) y (f i)) g := by
  rw [e]; rfl
set_option maxHeartbeats 4000000 in
set_option maxRecDepth 100000 in
theorem xs_74 (e : X = xW a k q v z w f g) (y : Nat → Int32) : X.set 74 ((a 74), .inl ((k 74), 8, .inl y)) = xW a k q v z w (fun i => cond (Nat.beq i 74) y (f i)) g := by
  rw [e]; rfl
set_option maxHeartbeats 4000000 in
set_option maxRecDepth 100000 in
theorem xs_75 (e : X = xW a k q v z w f g) (y : Nat → Int32) : X.set 75 ((a 75), .inl ((k 75), 8, .inl y)) = xW a k q v z w (fun i => cond (Nat.beq i 75) y (f i)) g := by
  rw [e]; rfl
set_option maxHeartbeats 4000000 in
set_option maxRecDepth 100000 in
theorem xs_76 (e : X = xW a k q v z w f g) (y : Nat → Int32) : X.set 76 ((a 76), .inl ((k 76), 8, .inl y)) = xW a k q v z w (fun i => cond (Nat.beq i 76) y (f i)) g := by
  rw [e]; rfl
set_option maxHeartbeats 4000000 in
set_option maxRecDepth 100000 in
theorem xs_77 (e : X = xW a k q v z w f g) (y0 : Int32) (y1 : Int32) (y2 : Int32) (y3 : Int32) (y4 : Int32) (y5 : Int64) : X.set 77 ((a 77), .inr (3, [.int y0, .int y1, .int y2, .int y3, .int y4, .long y5])) = xW a k q (uxx v 77 (fun j => [y0, y1, y2, y3, y4, 0].getD j 0)) (uzx z 77 (fun j => [0, 0, 0, 0, 0, y5].getD j 0)) w f g := by
  rw [e]; rfl
set_option maxHeartbeats 4000000 in
set_option maxRecDepth 100000 in
theorem xs_78 (e : X = xW a k q v z w f g) (y0 : Int32) : X.set 78 ((a 78), .inr (5, [.int y0, .ref (a 79), .ref (a 80), .ref (a 81), .ref (a 82)])) = xW a k q (uxx v 78 (fun j => [y0, 0, 0, 0, 0].getD j 0)) z w f g := by
  rw [e]; rfl
set_option maxHeartbeats 4000000 in
set_option maxRecDepth 100000 in
theorem xs_79 (e : X = xW a k q v z w f g) (y : Nat → Int32) : X.set 79 ((a 79), .inl ((k 79), 10, .inl y)) = xW a k q v z w (fun i => cond (Nat.beq i 79) y (f i)) g := by
  rw [e]; rfl
set_option maxHeartbeats 4000000 in
set_option maxRecDepth 100000 in
theorem xs_80 (e : X = xW a k q v z w f g) (y : Nat → Int32) : X.set 80 ((a 80), .inl ((k 80), 10, .inl y)) = xW a k q v z w (fun i => cond (Nat.beq i 80) y (f i)) g := by
  rw [e]; rfl
set_option maxHeartbeats 4000000 in
set_option maxRecDepth 100000 in
theorem xs_81 (e : X = xW a k q v z w f g) (y : Nat → Int32) : X.set 81 ((a 81), .inl ((k 81), 10, .inl y)) = xW a k q v z w (fun i => cond (Nat.beq i 81) y (f i)) g := by
  rw [e]; rfl
set_option maxHeartbeats 4000000 in
set_option maxRecDepth 100000 in
theorem xs_82 (e : X = xW a k q v z w f g) (y : Nat → Int32) : X.set 82 ((a 82), .inl ((k 82), 10, .inl y)) = xW a k q v z w (fun i => cond (Nat.beq i 82) y (f i)) g := by
  rw [e]; rfl
set_option maxHeartbeats 4000000 in
set_option maxRecDepth 100000 in
theorem xs_83 (e : X = xW a k q v z w f g) (y0 : Int32) (y4 : Int32) (y5 : Int32) : X.set 83 ((a 83), .inr (4, [.int y0, .ref (a 84), .ref (a 89), .ref (a 90), .int y4, .int y5])) = xW a k q (uxx v 83 (fun j => [y0, 0, 0, 0, y4, y5].getD j 0)) z w f g := by
  rw [e]; rfl
set_option maxHeartbeats 4000000 in
set_option maxRecDepth 100000 in
theorem xs_84 (e : X = xW a k q v z w f g) (y0 : Int32) (y1 : Int32) (y2 : Int32) : X.set 84 ((a 84), .inr (1, [.int y0, .int y1, .int y2, .ref (a 85), .ref (a 86), .ref (a 87), .ref (a 88)])) = xW a k q (uxx v 84 (fun j => [y0, y1, y2, 0, 0, 0, 0].getD j 0)) z w f g := by
  rw [e]; rfl
set_option maxHeartbeats 4000000 in
set_option maxRecDepth 100000 in
theorem xs_85 (e : X = xW a k q v z w f g) (y : Nat → Int32) : X.set 85 ((a 85), .inl ((k 85), 8, .inl y)) = xW a k q v z w (fun i => cond (Nat.beq i 85) y (f i)) g := by
  rw [e]; rfl
set_option maxHeartbeats 4000000 in
set_option maxRecDepth 100000 in
theorem xs_86 (e : X = xW a k q v z w f g) (y : Nat → Int32) : X.set 86 ((a 86), .inl ((k 86), 8, .inl y)) = xW a k q v z w (fun i => cond (Nat.beq i 86) y (f i)) g := by
  rw [e]; rfl
set_option maxHeartbeats 4000000 in
set_option maxRecDepth 100000 in
theorem xs_87 (e : X = xW a k q v z w f g) (y : Nat → Int32) : X.set 87 ((a 87), .inl ((k 87), 8, .inl y)) = xW a k q v z w (fun i => cond (Nat.beq i 87) y (f i)) g := by
  rw [e]; rfl
set_option maxHeartbeats 4000000 in
set_option maxRecDepth 100000 in
theorem xs_88 (e : X = xW a k q v z w f g) (y : Nat → Int32) : X.set 88 ((a 88), .inl ((k 88), 8, .inl y)) = xW a k q v z w (fun i => cond (Nat.beq i 88) y (f i)) g := by
  rw [e]; rfl
set_option maxHeartbeats 4000000 in
set_option maxRecDepth 100000 in
theorem xs_89 (e : X = xW a k q v z w f g) (y0 : Int32) (y1 : Int32) (y2 : Int32) (y3 : Int32) (y4 : Int32) (y5 : Int64) : X.set 89 ((a 89), .inr (3, [.int y0, .int y1, .int y2, .int y3, .int y4, .long y5])) = xW a k q (uxx v 89 (fun j => [y0, y1, y2, y3, y4, 0].getD j 0)) (uzx z 89 (fun j => [0, 0, 0, 0, 0, y5].getD j 0)) w f g := by
  rw [e]; rfl
set_option maxHeartbeats 4000000 in
set_option maxRecDepth 100000 in
theorem xs_90 (e : X = xW a k q v z w f g) (y0 : Int32) : X.set 90 ((a 90), .inr (5, [.int y0, .ref (a 91), .ref (a 92), .ref (a 93), .ref (a 94)])) = xW a k q (uxx v 90 (fun j => [y0, 0, 0, 0, 0].getD j 0)) z w f g := by
  rw [e]; rfl
set_option maxHeartbeats 4000000 in
set_option maxRecDepth 100000 in
theorem xs_91 (e : X = xW a k q v z w f g) (y : Nat → Int32) : X.set 91 ((a 91), .inl ((k 91), 10, .inl y)) = xW a k q v z w (fun i => cond (Nat.beq i 91) y (f i)) g := by
  rw [e]; rfl
set_option maxHeartbeats 4000000 in
set_option maxRecDepth 100000 in
theorem xs_92 (e : X = xW a k q v z w f g) (y : Nat → Int32) : X.set 92 ((a 92), .inl ((k 92), 10, .inl y)) = xW a k q v z w (fun i => cond (Nat.beq i 92) y (f i)) g := by
  rw [e]; rfl
set_option maxHeartbeats 4000000 in
set_option maxRecDepth 100000 in
theorem xs_93 (e : X = xW a k q v z w f g) (y : Nat → Int32) : X.set 93 ((a 93), .inl ((k 93), 10, .inl y)) = xW a k q v z w (fun i => cond (Nat.beq i 93) y (f i)) g := by
  rw [e]; rfl
set_option maxHeartbeats 4000000 in
set_option maxRecDepth 100000 in
theorem xs_94 (e : X = xW a k q v z w f g) (y : Nat → Int32) : X.set 94 ((a 94), .inl ((k 94), 10, .inl y)) = xW a k q v z w (fun i => cond (Nat.beq i 94) y (f i)) g := by
  rw [e]; rfl
set_option maxHeartbeats 4000000 in
set_option maxRecDepth 100000 in
theorem xs_95 (e : X = xW a k q v z w f g) (y0 : Int32) (y4 : Int32) (y5 : Int32) : X.set 95 ((a 95), .inr (4, [.int y0, .ref (a 96), .ref (a 101), .ref (a 102), .int y4, .int y5])) = xW a k q (uxx v 95 (fun j => [y0, 0, 0, 0, y4, y5].getD j 0)) z w f g := by
  rw [e]; rfl
set_option maxHeartbeats 4000000 in
set_option maxRecDepth 100000 in
theorem xs_96 (e : X = xW a k q v z w f g) (y0 : Int32) (y1 : Int32) (y2 : Int32) : X.set 96 ((a 96), .inr (1, [.int y0, .int y1, .int y2, .ref (a 97), .ref (a 98), .ref (a 99), .ref (a 100)])) = xW a k q (uxx v 96 (fun j => [y0, y1, y2, 0, 0, 0, 0].getD j 0)) z w f g := by
  rw [e]; rfl
set_option maxHeartbeats 4000000 in
set_option maxRecDepth 100000 in
theorem xs_97 (e : X = xW a k q v z w f g) (y : Nat → Int32) : X.set 97 ((a 97), .inl ((k 97), 8, .inl y)) = xW a k q v z w (fun i => cond (Nat.beq i 97) y (f i)) g := by
  rw [e]; rfl
set_option maxHeartbeats 4000000 in
set_option maxRecDepth 100000 in
theorem xs_98 (e : X = xW a k q v z w f g) (y : Nat → Int32) : X.set 98 ((a 98), .inl ((k 98), 8, .inl y)) = xW a k q v z w (fun i => cond (Nat.beq i 98) y (f i)) g := by
  rw [e]; rfl
set_option maxHeartbeats 4000000 in
set_option maxRecDepth 100000 in
theorem xs_99 (e : X = xW a k q v z w f g) (y : Nat → Int32) : X.set 99 ((a 99), .inl ((k 99), 8, .inl y)) = xW a k q v z w (fun i => cond (Nat.beq i 99) y (f i)) g := by
  rw [e]; rfl
set_option maxHeartbeats 4000000 in
set_option maxRecDepth 100000 in
theorem xs_100 (e : X = xW a k q v z w f g) (y : Nat → Int32) : X.set 100 ((a 100), .inl ((k 100), 8, .inl y)) = xW a k q v z w (fun i => cond (Nat.beq i 100) y (f i)) g := by
  rw [e]; rfl
set_option maxHeartbeats 4000000 in
set_option maxRecDepth 100000 in
theorem xs_101 (e : X = xW a k q v z w f g) (y0 : Int32) (y1 : Int32) (y2 : Int32) (y3 : Int32) (y4 : Int32) (y5 : Int64) : X.set 101 ((a 101), .inr (3, [.int y0, .int y1, .int y2, .int y3, .int y4, .long y5])) = xW a k q (uxx v 101 (fun j => [y0, y1, y2, y3, y4, 0].getD j 0)) (uzx z 101 (fun j => [0, 0, 0, 0, 0, y5].getD j 0)) w f g := by
  rw [e]; rfl
set_option maxHeartbeats 4000000 in
set_option maxRecDepth 100000 in
theorem xs_102 (e : X = xW a k q v z w f g) (y0 : Int32) : X.set 102 ((a 102), .inr (5, [.int y0, .ref (a 103), .ref (a 104), .ref (a 105), .ref (a 106)])) = xW a k q (uxx v 102 (fun j => [y0, 0, 0, 0, 0].getD j 0)) z w f g := by
  rw [e]; rfl
set_option maxHeartbeats 4000000 in
set_option maxRecDepth 100000 in
theorem xs_103 (e : X = xW a k q v z w f g) (y : Nat → Int32) : X.set 103 ((a 103), .inl ((k 103), 10, .inl y)) = xW a k q v z w (fun i => cond (Nat.beq i 103) y (f i)) g := by
  rw [e]; rfl
set_option maxHeartbeats 4000000 in
set_option maxRecDepth 100000 in
theorem xs_104 (e : X = xW a k q v z w f g) (y : Nat → Int32) : X.set 104 ((a 104), .inl ((k 104), 10, .inl y)) = xW a k q v z w (fun i => cond (Nat.beq i 104) y (f i)) g := by
  rw [e]; rfl
set_option maxHeartbeats 4000000 in
set_option maxRecDepth 100000 in
theorem xs_105 (e : X = xW a k q v z w f g) (y : Nat → Int32) : X.set 105 ((a 105), .inl ((k 105), 10, .inl y)) = xW a k q v z w (fun i => cond (Nat.beq i 105) y (f i)) g := by
  rw [e]; rfl
set_option maxHeartbeats 4000000 in
set_option maxRecDepth 100000 in
theorem xs_106 (e : X = xW a k q v z w f g) (y : Nat → Int32) : X.set 106 ((a 106), .inl ((k 106), 10, .inl y)) = xW a k q v z w (fun i => cond (Nat.beq i 106) y (f i)) g := by
  rw [e]; rfl
set_option maxHeartbeats 4000000 in
set_option maxRecDepth 100000 in
theorem xs_107 (e : X = xW a k q v z w f g) (y0 : Value) (y1 : Value) (y4 : Int32) (y5 : Int32) (y6 : Int32) (y7 : Int32) : X.set 107 ((a 107), .inr (0, [y0, y1, .ref (a 108), .ref (a 109), .int y4, .int y5, .int y6, .int y7])) = xW a k q (uxx v 107 (fun j => [0, 0, 0, 0, y4, y5, y6, y7].getD j 0)) z (uwx w 107 (fun j => [y0, y1, .null, .null, .null, .null, .null, .null].getD j .null)) f g := by
  rw [e]; rfl
set_option maxHeartbeats 4000000 in
set_option maxRecDepth 100000 in
theorem xs_108 (e : X = xW a k q v z w f g) (y : Nat → Int64) : X.set 108 ((a 108), .inl ((k 108), 10, .inr (.inl y))) = xW a k q v z w f (fun i => cond (Nat.beq i 108) y (g i)) := by
  rw [e]; rfl
set_option maxHeartbeats 4000000 in
set_option maxRecDepth 100000 in
theorem xs_109 (e : X = xW a k q v z w f g) (y : Nat → Int64) : X.set 109 ((a 109), .inl ((k 109), 32, .inr (.inl y))) = xW a k q v z w f (fun i => cond (Nat.beq i 109) y (g i)) := by
  rw [e]; rfl
set_option maxHeartbeats 4000000 in
set_option maxRecDepth 100000 in
theorem xs_110 (e : X = xW a k q v z w f g) (y3 : Int32) (y4 : Int32) (y5 : Int32) (y6 : Int32) : X.set 110 ((a 110), .inr (8, [.ref (a 111), .ref (a 112), .ref (a 113), .int y3, .int y4, .int y5, .int y6])) = xW a k q (uxx v 110 (fun j => [0, 0, 0, y3, y4, y5, y6].getD j 0)) z w f g := by
  rw [e]; rfl
set_option maxHeartbeats 4000000 in
set_option maxRecDepth 100000 in
theorem xs_111 (e : X = xW a k q v z w f g) : X.set 111 ((a 111), .inl ((k 111), 5, .inr (.inr (.inr (.inr (q 111)))))) = xW a k q v z w f g := by
  rw [e]; rfl
set_option maxHeartbeats 4000000 in
set_option maxRecDepth 100000 in
theorem xs_112 (e : X = xW a k q v z w f g) (y : Nat → Int32) : X.set 112 ((a 112), .inl ((k 112), 4, .inl y)) = xW a k q v z w (fun i => cond (Nat.beq i 112) y (f i)) g := by
  rw [e]; rfl
set_option maxHeartbeats 4000000 in
set_option maxRecDepth 100000 in
theorem xs_113 (e : X = xW a k q v z w f g) (y : Nat → Int32) : X.set 113 ((a 113), .inl ((k 113), 4, .inl y)) = xW a k q v z w (fun i => cond (Nat.beq i 113) y (f i)) g := by
  rw [e]; rfl
set_option maxHeartbeats 4000000 in
set_option maxRecDepth 100000 in
theorem xs_114 (e : X = xW a k q v z w f g) (y0 : Int32) (y1 : Int32) (y2 : Int32) (y3 : Int32) (y4 : Int32) (y5 : Int64) : X.set 114 ((a 114), .inr (3, [.int y0, .int y1, .int y2, .int y3, .int y4, .long y5])) = xW a k q (uxx v 114 (fun j => [y0, y1, y2, y3, y4, 0].getD j 0)) (uzx z 114 (fun j => [0, 0, 0, 0, 0, y5].getD j 0)) w f g := by
  rw [e]; rfl
set_option maxHeartbeats 4000000 in
set_option maxRecDepth 100000 in
theorem xs_115 (e : X = xW a k q v z w f g) (y0 : Int32) (y1 : Int32) (y2 : Int32) (y3 : Int32) (y4 : Int32) (y5 : Int64) : X.set 115 ((a 115), .inr (3, [.int y0, .int y1, .int y2, .int y3, .int y4, .long y5])) = xW a k q (uxx v 115 (fun j => [y0, y1, y2, y3, y4, 0].getD j 0)) (uzx z 115 (fun j => [0, 0, 0, 0, 0, y5].getD j 0)) w f g := by
  rw [e]; rfl
set_option maxHeartbeats 4000000 in
set_option maxRecDepth 100000 in
theorem xs_116 (e : X = xW a k q v z w f g) (y0 : Int32) (y1 : Int32) (y2 : Int32) (y3 : Int32) (y4 : Int32) (y5 : Int64) : X.set 116 ((a 116), .inr (3, [.int y0, .int y1, .int y2, .int y3, .int y4, .long y5])) = xW a k q (uxx v 116 (fun j => [y0, y1, y2, y3, y4, 0].getD j 0)) (uzx z 116 (fun j => [0, 0, 0, 0, 0, y5].getD j 0)) w f g := by
  rw [e]; rfl
set_option maxHeartbeats 4000000 in
set_option maxRecDepth 100000 in
theorem xs_117 (e : X = xW a k q v z w f g) (y0 : Int32) (y1 : Int32) (y2 : Int32) (y3 : Int32) (y4 : Int32) (y5 : Int64) : X.set 117 ((a 117), .inr (3, [.int y0, .int y1, .int y2, .int y3, .int y4, .long y5])) = xW a k q (uxx v 117 (fun j => [y0, y1, y2, y3, y4, 0].getD j 0)) (uzx z 117 (fun j => [0, 0, 0, 0, 0, y5].getD j 0)) w f g := by
  rw [e]; rfl
set_option maxHeartbeats 4000000 in
set_option maxRecDepth 100000 in
theorem xs_118 (e : X = xW a k q v z w f g) (y0 : Int32) (y1 : Int32) (y2 : Int32) (y3 : Int32) (y4 : Int32) (y5 : Int64) : X.set 118 ((a 118), .inr (3, [.int y0, .int y1, .int y2, .int y3, .int y4, .long y5])) = xW a k q (uxx v 118 (fun j => [y0, y1, y2, y3, y4, 0].getD j 0)) (uzx z 118 (fun j => [0, 0, 0, 0, 0, y5].getD j 0)) w f g := by
  rw [e]; rfl
set_option maxHeartbeats 4000000 in
set_option maxRecDepth 100000 in
theorem xs_119 (e : X = xW a k q v z w f g) (y : Nat → Int32) : X.set 119 ((a 119), .inl ((k 119), 50, .inl y)) = xW a k q v z w (fun i => cond (Nat.beq i 119) y (f i)) g := by
  rw [e]; rfl
set_option maxHeartbeats 4000000 in
set_option maxRecDepth 100000 in
theorem xs_120 (e : X = xW a k q v z w f g) (y : Nat → Int64) : X.set 120 ((a 120), .inl ((k 120), 7, .inr (.inl y))) = xW a k q v z w f (fun i => cond (Nat.beq i 120) y (g i)) := by
  rw [e]; rfl
end
