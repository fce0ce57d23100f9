theorem qw_224 : (.fieldLink RX1 24 "SpokenBite$Dinne\x72" "deep" "I" : Cond) ∈ wsA := mA (i := 224) (by decide +kernel) rfl
theorem qw_228 : (.fieldLink RX1 28 "SpokenBite$Dinne\x72" "dishes" "I" : Cond) ∈ wsA := mA (i := 228) (by decide +kernel) rfl
theorem qw_232 : (.fieldLink RX1 31 "SpokenBite$Dinne\x72" "guests" "I" : Cond) ∈ wsA := mA (i := 232) (by decide +kernel) rfl
theorem qw_236 : (.fieldLink RX1 9 "SpokenBite$Dinne\x72" "loud" "[I" : Cond) ∈ wsA := mA (i := 236) (by decide +kernel) rfl
theorem qw_239 : (.fieldLink RX1 15 "SpokenBite$Dinne\x72" "says" "[I" : Cond) ∈ wsA := mA (i := 239) (by decide +kernel) rfl
theorem qw_242 : (.fieldLink RX1 18 "SpokenBite$Dinne\x72" "ears" "[I" : Cond) ∈ wsA := mA (i := 242) (by decide +kernel) rfl
theorem qw_245 : (.fieldLink RX1 21 "SpokenBite$Dinne\x72" "clash" "[I" : Cond) ∈ wsA := mA (i := 245) (by decide +kernel) rfl
theorem dX1_addClash_0 : decode cX1_addClash 0 = .ok (.aload_n 0, 1) := by decide +kernel
theorem dX1_addClash_1 : decode cX1_addClash 1 = .ok (.getfield 21, 3) := by decide +kernel
theorem dX1_addClash_4 : decode cX1_addClash 4 = .ok (.iload_n 1, 1) := by decide +kernel
theorem dX1_addClash_5 : decode cX1_addClash 5 = .ok (.bipush 7, 2) := by decide +kernel
theorem dX1_addClash_7 : decode cX1_addClash 7 = .ok (.iand, 1) := by decide +kernel
theorem dX1_addClash_8 : decode cX1_addClash 8 = .ok (.dup2, 1) := by decide +kernel
theorem dX1_addClash_9 : decode cX1_addClash 9 = .ok (.iaload, 1) := by decide +kernel
theorem dX1_addClash_10 : decode cX1_addClash 10 = .ok (.iconst 1, 1) := by decide +kernel
theorem dX1_addClash_11 : decode cX1_addClash 11 = .ok (.iload_n 2, 1) := by decide +kernel
theorem dX1_addClash_12 : decode cX1_addClash 12 = .ok (.ishl, 1) := by decide +kernel
theorem dX1_addClash_13 : decode cX1_addClash 13 = .ok (.ior, 1) := by decide +kernel
theorem dX1_addClash_14 : decode cX1_addClash 14 = .ok (.iastore, 1) := by decide +kernel
theorem dX1_addClash_15 : decode cX1_addClash 15 = .ok (.aload_n 0, 1) := by decide +kernel
theorem dX1_addClash_16 : decode cX1_addClash 16 = .ok (.getfield 21, 3) := by decide +kernel
theorem dX1_addClash_19 : decode cX1_addClash 19 = .ok (.iload_n 2, 1) := by decide +kernel
theorem dX1_addClash_20 : decode cX1_addClash 20 = .ok (.bipush 7, 2) := by decide +kernel
theorem dX1_addClash_22 : decode cX1_addClash 22 = .ok (.iand, 1) := by decide +kernel
theorem dX1_addClash_23 : decode cX1_addClash 23 = .ok (.dup2, 1) := by decide +kernel
theorem dX1_addClash_24 : decode cX1_addClash 24 = .ok (.iaload, 1) := by decide +kernel
theorem dX1_addClash_25 : decode cX1_addClash 25 = .ok (.iconst 1, 1) := by decide +kernel
theorem dX1_addClash_26 : decode cX1_addClash 26 = .ok (.iload_n 1, 1) := by decide +kernel
theorem dX1_addClash_27 : decode cX1_addClash 27 = .ok (.ishl, 1) := by decide +kernel
theorem dX1_addClash_28 : decode cX1_addClash 28 = .ok (.ior, 1) := by decide +kernel
theorem dX1_addClash_29 : decode cX1_addClash 29 = .ok (.iastore, 1) := by decide +kernel
theorem dX1_addClash_30 : decode cX1_addClash 30 = .ok (.return_, 1) := by decide +kernel
theorem dX1_addDish_0 : decode cX1_addDish 0 = .ok (.aload_n 0, 1) := by decide +kernel
theorem dX1_addDish_1 : decode cX1_addDish 1 = .ok (.getfield 9, 3) := by decide +kernel
theorem dX1_addDish_4 : decode cX1_addDish 4 = .ok (.aload_n 0, 1) := by decide +kernel
theorem dX1_addDish_5 : decode cX1_addDish 5 = .ok (.getfield 28, 3) := by decide +kernel
theorem dX1_addDish_8 : decode cX1_addDish 8 = .ok (.bipush 7, 2) := by decide +kernel
theorem dX1_addDish_10 : decode cX1_addDish 10 = .ok (.iand, 1) := by decide +kernel
theorem dX1_addDish_11 : decode cX1_addDish 11 = .ok (.iload_n 1, 1) := by decide +kernel
theorem dX1_addDish_12 : decode cX1_addDish 12 = .ok (.iastore, 1) := by decide +kernel
theorem dX1_addDish_13 : decode cX1_addDish 13 = .ok (.aload_n 0, 1) := by decide +kernel
theorem dX1_addDish_14 : decode cX1_addDish 14 = .ok (.getfield 15, 3) := by decide +kernel
theorem dX1_addDish_17 : decode cX1_addDish 17 = .ok (.aload_n 0, 1) := by decide +kernel
theorem dX1_addDish_18 : decode cX1_addDish 18 = .ok (.getfield 28, 3) := by decide +kernel
theorem dX1_addDish_21 : decode cX1_addDish 21 = .ok (.bipush 7, 2) := by decide +kernel
theorem dX1_addDish_23 : decode cX1_addDish 23 = .ok (.iand, 1) := by decide +kernel
theorem dX1_addDish_24 : decode cX1_addDish 24 = .ok (.iload_n 2, 1) := by decide +kernel
theorem dX1_addDish_25 : decode cX1_addDish 25 = .ok (.iastore, 1) := by decide +kernel
theorem dX1_addDish_26 : decode cX1_addDish 26 = .ok (.aload_n 0, 1) := by decide +kernel
theorem dX1_addDish_27 : decode cX1_addDish 27 = .ok (.dup, 1) := by decide +kernel
theorem dX1_addDish_28 : decode cX1_addDish 28 = .ok (.getfield 28, 3) := by decide +kernel
theorem dX1_addDish_31 : decode cX1_addDish 31 = .ok (.iconst 1, 1) := by decide +kernel
theorem dX1_addDish_32 : decode cX1_addDish 32 = .ok (.iadd, 1) := by decide +kernel
theorem dX1_addDish_33 : decode cX1_addDish 33 = .ok (.putfield 28, 3) := by decide +kernel
theorem dX1_addDish_36 : decode cX1_addDish 36 = .ok (.return_, 1) := by decide +kernel
theorem dX1_addGuest_0 : decode cX1_addGuest 0 = .ok (.aload_n 0, 1) := by decide +kernel
theorem dX1_addGuest_1 : decode cX1_addGuest 1 = .ok (.getfield 18, 3) := by decide +kernel
theorem dX1_addGuest_4 : decode cX1_addGuest 4 = .ok (.aload_n 0, 1) := by decide +kernel
theorem dX1_addGuest_5 : decode cX1_addGuest 5 = .ok (.getfield 31, 3) := by decide +kernel
theorem dX1_addGuest_8 : decode cX1_addGuest 8 = .ok (.bipush 7, 2) := by decide +kernel
theorem dX1_addGuest_10 : decode cX1_addGuest 10 = .ok (.iand, 1) := by decide +kernel
theorem dX1_addGuest_11 : decode cX1_addGuest 11 = .ok (.iload_n 1, 1) := by decide +kernel
theorem dX1_addGuest_12 : decode cX1_addGuest 12 = .ok (.iastore, 1) := by decide +kernel
theorem dX1_addGuest_13 : decode cX1_addGuest 13 = .ok (.aload_n 0, 1) := by decide +kernel
theorem dX1_addGuest_14 : decode cX1_addGuest 14 = .ok (.dup, 1) := by decide +kernel
theorem dX1_addGuest_15 : decode cX1_addGuest 15 = .ok (.getfield 31, 3) := by decide +kernel
theorem dX1_addGuest_18 : decode cX1_addGuest 18 = .ok (.iconst 1, 1) := by decide +kernel
theorem dX1_addGuest_19 : decode cX1_addGuest 19 = .ok (.iadd, 1) := by decide +kernel
theorem dX1_addGuest_20 : decode cX1_addGuest 20 = .ok (.putfield 31, 3) := by decide +kernel
theorem dX1_addGuest_23 : decode cX1_addGuest 23 = .ok (.return_, 1) := by decide +kernel
theorem dX1_clear_0 : decode cX1_clear 0 = .ok (.aload_n 0, 1) := by decide +kernel
theorem dX1_clear_1 : decode cX1_clear 1 = .ok (.iconst 0, 1) := by decide +kernel
theorem dX1_clear_2 : decode cX1_clear 2 = .ok (.putfield 24, 3) := by decide +kernel
theorem dX1_clear_5 : decode cX1_clear 5 = .ok (.aload_n 0, 1) := by decide +kernel
theorem dX1_clear_6 : decode cX1_clear 6 = .ok (.iconst 0, 1) := by decide +kernel
theorem dX1_clear_7 : decode cX1_clear 7 = .ok (.putfield 28, 3) := by decide +kernel
theorem dX1_clear_10 : decode cX1_clear 10 = .ok (.aload_n 0, 1) := by decide +kernel
theorem dX1_clear_11 : decode cX1_clear 11 = .ok (.iconst 0, 1) := by decide +kernel
theorem dX1_clear_12 : decode cX1_clear 12 = .ok (.putfield 31, 3) := by decide +kernel
theorem dX1_clear_15 : decode cX1_clear 15 = .ok (.iconst 0, 1) := by decide +kernel
theorem dX1_clear_16 : decode cX1_clear 16 = .ok (.istore_n 1, 1) := by decide +kernel
theorem dX1_clear_17 : decode cX1_clear 17 = .ok (.iload_n 1, 1) := by decide +kernel
theorem dX1_clear_18 : decode cX1_clear 18 = .ok (.bipush 8, 2) := by decide +kernel
theorem dX1_clear_20 : decode cX1_clear 20 = .ok (.if_icmp .ge 16, 3) := by decide +kernel
theorem dX1_clear_23 : decode cX1_clear 23 = .ok (.aload_n 0, 1) := by decide +kernel
theorem dX1_clear_24 : decode cX1_clear 24 = .ok (.getfield 21, 3) := by decide +kernel
theorem dX1_clear_27 : decode cX1_clear 27 = .ok (.iload_n 1, 1) := by decide +kernel
theorem dX1_clear_28 : decode cX1_clear 28 = .ok (.iconst 0, 1) := by decide +kernel
theorem dX1_clear_29 : decode cX1_clear 29 = .ok (.iastore, 1) := by decide +kernel
theorem dX1_clear_30 : decode cX1_clear 30 = .ok (.iinc 1 1, 3) := by decide +kernel
theorem dX1_clear_33 : decode cX1_clear 33 = .ok (.goto (-16), 3) := by decide +kernel
theorem dX1_clear_36 : decode cX1_clear 36 = .ok (.return_, 1) := by decide +kernel
theorem dX1_isTorn_0 : decode cX1_isTorn 0 = .ok (.iload_n 1, 1) := by decide +kernel
theorem dX1_isTorn_1 : decode cX1_isTorn 1 = .ok (.istore_n 2, 1) := by decide +kernel
theorem dX1_isTorn_2 : decode cX1_isTorn 2 = .ok (.iconst 0, 1) := by decide +kernel
theorem dX1_isTorn_3 : decode cX1_isTorn 3 = .ok (.istore_n 3, 1) := by decide +kernel
theorem dX1_isTorn_4 : decode cX1_isTorn 4 = .ok (.iload_n 3, 1) := by decide +kernel
theorem dX1_isTorn_5 : decode cX1_isTorn 5 = .ok (.bipush 8, 2) := by decide +kernel
theorem dX1_isTorn_7 : decode cX1_isTorn 7 = .ok (.if_icmp .ge 36, 3) := by decide +kernel
theorem dX1_isTorn_10 : decode cX1_isTorn 10 = .ok (.iload_n 2, 1) := by decide +kernel
theorem dX1_isTorn_11 : decode cX1_isTorn 11 = .ok (.ifCond .eq 32, 3) := by decide +kernel
theorem dX1_isTorn_14 : decode cX1_isTorn 14 = .ok (.iload_n 2, 1) := by decide +kernel
theorem dX1_isTorn_15 : decode cX1_isTorn 15 = .ok (.iconst 1, 1) := by decide +kernel
theorem dX1_isTorn_16 : decode cX1_isTorn 16 = .ok (.iand, 1) := by decide +kernel
theorem dX1_isTorn_17 : decode cX1_isTorn 17 = .ok (.ifCond .eq 16, 3) := by decide +kernel
theorem dX1_isTorn_20 : decode cX1_isTorn 20 = .ok (.aload_n 0, 1) := by decide +kernel
theorem dX1_isTorn_21 : decode cX1_isTorn 21 = .ok (.getfield 21, 3) := by decide +kernel
theorem dX1_isTorn_24 : decode cX1_isTorn 24 = .ok (.iload_n 3, 1) := by decide +kernel
theorem dX1_isTorn_25 : decode cX1_isTorn 25 = .ok (.iaload, 1) := by decide +kernel
theorem dX1_isTorn_26 : decode cX1_isTorn 26 = .ok (.iload_n 1, 1) := by decide +kernel
theorem dX1_isTorn_27 : decode cX1_isTorn 27 = .ok (.iand, 1) := by decide +kernel
theorem dX1_isTorn_28 : decode cX1_isTorn 28 = .ok (.ifCond .eq 5, 3) := by decide +kernel
theorem dX1_isTorn_31 : decode cX1_isTorn 31 = .ok (.iconst 1, 1) := by decide +kernel
theorem dX1_isTorn_32 : decode cX1_isTorn 32 = .ok (.ireturn, 1) := by decide +kernel
theorem dX1_isTorn_33 : decode cX1_isTorn 33 = .ok (.iload_n 2, 1) := by decide +kernel
theorem dX1_isTorn_34 : decode cX1_isTorn 34 = .ok (.iconst 1, 1) := by decide +kernel
theorem dX1_isTorn_35 : decode cX1_isTorn 35 = .ok (.ishr, 1) := by decide +kernel
theorem dX1_isTorn_36 : decode cX1_isTorn 36 = .ok (.istore_n 2, 1) := by decide +kernel
theorem dX1_isTorn_37 : decode cX1_isTorn 37 = .ok (.iinc 3 1, 3) := by decide +kernel
theorem dX1_isTorn_40 : decode cX1_isTorn 40 = .ok (.goto (-36), 3) := by decide +kernel
theorem dX1_isTorn_43 : decode cX1_isTorn 43 = .ok (.iconst 0, 1) := by decide +kernel
theorem dX1_isTorn_44 : decode cX1_isTorn 44 = .ok (.ireturn, 1) := by decide +kernel
theorem dX1_take_0 : decode cX1_take 0 = .ok (.aload_n 0, 1) := by decide +kernel
theorem dX1_take_1 : decode cX1_take 1 = .ok (.aload_n 1, 1) := by decide +kernel
theorem dX1_take_2 : decode cX1_take 2 = .ok (.getfield 24, 3) := by decide +kernel
theorem dX1_take_5 : decode cX1_take 5 = .ok (.putfield 24, 3) := by decide +kernel
theorem dX1_take_8 : decode cX1_take 8 = .ok (.aload_n 0, 1) := by decide +kernel
theorem dX1_take_9 : decode cX1_take 9 = .ok (.aload_n 1, 1) := by decide +kernel
theorem dX1_take_10 : decode cX1_take 10 = .ok (.getfield 28, 3) := by decide +kernel
theorem dX1_take_13 : decode cX1_take 13 = .ok (.putfield 28, 3) := by decide +kernel
theorem dX1_take_16 : decode cX1_take 16 = .ok (.aload_n 0, 1) := by decide +kernel
theorem dX1_take_17 : decode cX1_take 17 = .ok (.aload_n 1, 1) := by decide +kernel
theorem dX1_take_18 : decode cX1_take 18 = .ok (.getfield 31, 3) := by decide +kernel
theorem dX1_take_21 : decode cX1_take 21 = .ok (.putfield 31, 3) := by decide +kernel
theorem dX1_take_24 : decode cX1_take 24 = .ok (.iconst 0, 1) := by decide +kernel
theorem dX1_take_25 : decode cX1_take 25 = .ok (.istore_n 2, 1) := by decide +kernel
theorem dX1_take_26 : decode cX1_take 26 = .ok (.iload_n 2, 1) := by decide +kernel
theorem dX1_take_27 : decode cX1_take 27 = .ok (.bipush 8, 2) := by decide +kernel
theorem dX1_take_29 : decode cX1_take 29 = .ok (.if_icmp .ge 57, 3) := by decide +kernel
theorem dX1_take_32 : decode cX1_take 32 = .ok (.aload_n 0, 1) := by decide +kernel
theorem dX1_take_33 : decode cX1_take 33 = .ok (.getfield 9, 3) := by decide +kernel
theorem dX1_take_36 : decode cX1_take 36 = .ok (.iload_n 2, 1) := by decide +kernel
theorem dX1_take_37 : decode cX1_take 37 = .ok (.aload_n 1, 1) := by decide +kernel
theorem dX1_take_38 : decode cX1_take 38 = .ok (.getfield 9, 3) := by decide +kernel
theorem dX1_take_41 : decode cX1_take 41 = .ok (.iload_n 2, 1) := by decide +kernel
theorem dX1_take_42 : decode cX1_take 42 = .ok (.iaload, 1) := by decide +kernel
theorem dX1_take_43 : decode cX1_take 43 = .ok (.iastore, 1) := by decide +kernel
theorem dX1_take_44 : decode cX1_take 44 = .ok (.aload_n 0, 1) := by decide +kernel
theorem dX1_take_45 : decode cX1_take 45 = .ok (.getfield 15, 3) := by decide +kernel
theorem dX1_take_48 : decode cX1_take 48 = .ok (.iload_n 2, 1) := by decide +kernel
theorem dX1_take_49 : decode cX1_take 49 = .ok (.aload_n 1, 1) := by decide +kernel
theorem dX1_take_50 : decode cX1_take 50 = .ok (.getfield 15, 3) := by decide +kernel
theorem dX1_take_53 : decode cX1_take 53 = .ok (.iload_n 2, 1) := by decide +kernel
theorem dX1_take_54 : decode cX1_take 54 = .ok (.iaload, 1) := by decide +kernel
theorem dX1_take_55 : decode cX1_take 55 = .ok (.iastore, 1) := by decide +kernel
theorem dX1_take_56 : decode cX1_take 56 = .ok (.aload_n 0, 1) := by decide +kernel
theorem dX1_take_57 : decode cX1_take 57 = .ok (.getfield 18, 3) := by decide +kernel
theorem dX1_take_60 : decode cX1_take 60 = .ok (.iload_n 2, 1) := by decide +kernel
theorem dX1_take_61 : decode cX1_take 61 = .ok (.aload_n 1, 1) := by decide +kernel
theorem dX1_take_62 : decode cX1_take 62 = .ok (.getfield 18, 3) := by decide +kernel
theorem dX1_take_65 : decode cX1_take 65 = .ok (.iload_n 2, 1) := by decide +kernel
theorem dX1_take_66 : decode cX1_take 66 = .ok (.iaload, 1) := by decide +kernel
theorem dX1_take_67 : decode cX1_take 67 = .ok (.iastore, 1) := by decide +kernel
theorem dX1_take_68 : decode cX1_take 68 = .ok (.aload_n 0, 1) := by decide +kernel
theorem dX1_take_69 : decode cX1_take 69 = .ok (.getfield 21, 3) := by decide +kernel
theorem dX1_take_72 : decode cX1_take 72 = .ok (.iload_n 2, 1) := by decide +kernel
theorem dX1_take_73 : decode cX1_take 73 = .ok (.aload_n 1, 1) := by decide +kernel
theorem dX1_take_74 : decode cX1_take 74 = .ok (.getfield 21, 3) := by decide +kernel
theorem dX1_take_77 : decode cX1_take 77 = .ok (.iload_n 2, 1) := by decide +kernel
theorem dX1_take_78 : decode cX1_take 78 = .ok (.iaload, 1) := by decide +kernel
theorem dX1_take_79 : decode cX1_take 79 = .ok (.iastore, 1) := by decide +kernel
theorem dX1_take_80 : decode cX1_take 80 = .ok (.iinc 2 1, 3) := by decide +kernel
theorem dX1_take_83 : decode cX1_take 83 = .ok (.goto (-57), 3) := by decide +kernel
theorem dX1_take_86 : decode cX1_take 86 = .ok (.return_, 1) := by decide +kernel
set_option maxHeartbeats 4000000 in
set_option maxRecDepth 100000 in
/-- d_clear -/
theorem d_clear (l : Launch) (dC : Nat → ClassId) (dI : Nat → Nat → Nat) (sz : Nat) (h0 : Nat) (h0_deep : Int32) (h0_dishes : Int32) (h0_guests : Int32) (h0lo : Nat) (h0sa : Nat) (h0ea : Nat) (h0cl : Nat) (kh0cl : ClassId) (gh0cl : Nat → Int32) : Met l yX1_clear (.code yX1_clear cX1_clear 2 none :: wsA) ({ frames := 0, cells := 0, slots := 0, locals := 0 }) (va_Pc [.ref h0] (fun U => U.heap.size = sz ∧ va_P (dC, dI) classes [(h0, .inr (1, [.int h0_deep, .int h0_dishes, .int h0_guests, .ref h0lo, .ref h0sa, .ref h0ea, .ref h0cl])), (h0cl, .inl (kh0cl, 8, .inl gh0cl))] U.heap ∧ va_K (dC, dI) classes [(kh0cl, .int)] U ∧ va_D (fun _ => True) [(h0, .inr (1, [.int h0_deep, .int h0_dishes, .int h0_guests, .ref h0lo, .ref h0sa, .ref h0ea, .ref h0cl])), (h0cl, .inl (kh0cl, 8, .inl gh0cl))] ∧ xE U)) (va_Qv (fun (_ : Unit) => True) (fun _ t => ∃ (f_29 : Nat → Int32), va_P (dC, dI) classes [(h0, .inr (1, [.int 0, .int 0, .int 0, .ref h0lo, .ref h0sa, .ref h0ea, .ref h0cl])), (h0cl, .inl (kh0cl, 8, .inl f_29))] t.heap ∧ va_K (dC, dI) classes [(kh0cl, .int)] t ∧ va_D (va_A [(h0, .inr (1, [.int h0_deep, .int h0_dishes, .int h0_guests, .ref h0lo, .ref h0sa, .ref h0ea, .ref h0cl])), (h0cl, .inl (kh0cl, 8, .inl gh0cl))] sz) [(h0, .inr (1, [.int 0, .int 0, .int 0, .ref h0lo, .ref h0sa, .ref h0ea, .ref h0cl])), (h0cl, .inl (kh0cl, 8, .inl f_29))]) (va_A [(h0, .inr (1, [.int h0_deep, .int h0_dishes, .int h0_guests, .ref h0lo, .ref h0sa, .ref h0ea, .ref h0cl])), (h0cl, .inl (kh0cl, 8, .inl gh0cl))] sz)) 0 0 (va_A [(h0, .inr (1, [.int h0_deep, .int h0_dishes, .int h0_guests, .ref h0lo, .ref h0sa, .ref h0ea, .ref h0cl])), (h0cl, .inl (kh0cl, 8, .inl gh0cl))] sz) := by
  refine Met.ofW (cc := cX1_clear) (maxL := 2) (ret := none) (by decide) rfl ?_
  intro p e s m args below meth c s₁ B hml hv
  obtain ⟨rfl, hsz, hP, hK, hD0, hE⟩ := hv
  have hx := B.exec
  have hb := B.bytes
  have hr := B.returns
  have hts := atoms_spec (ws := .code yX1_clear cX1_clear 2 none :: wsA) B.pre
  have hq : ∀ w ∈ wsA, w.before _ s = true := fun w h => hts w (List.mem_cons_of_mem _ h)
  have hown : s.vm.findClass RX1 = some m.cls := findClass_of_methodNamed B.named
  have hlocks := B.notSynchronized
  subst hsz
  have hD := hD0.self (sz := s.heap.size)
  generalize hAe : va_A [(h0, .inr (1, [.int h0_deep, .int h0_dishes, .int h0_guests, .ref h0lo, .ref h0sa, .ref h0ea, .ref h0cl])), (h0cl, .inl (kh0cl, 8, .inl gh0cl))] s.heap.size = A at hD ⊢
  have hA : ∀ q : Nat, s.heap.size ≤ q → A q := fun q h => by rw [← hAe]; exact Or.inr h
  have hS : va_S A s.heap s.heap [] := va_S.rf
  have hl := lv_entry ([.ref h0]) (n := 2) (Nat.le_of_ble_eq_true rfl)
  rw [lg_entry_eq]
  generalize (lg_sl ([.ref h0]) ++ List.replicate (2 - (lg_sl ([.ref h0])).length) Slot.unset).toArray = ls at hl ⊢
  have hl : lv_has ls 2 [(0, .ref h0)] := hl
  refine lv_aload_n hx hb dX1_clear_0 rfl (lv_at hl 0 rfl) ?_
  refine lv_iconst (v := 0) hx hb dX1_clear_1 (by decide) ?_
  refine va_put (D := (dC, dI)) (ci := 1) (v := .int 0) (ty := .int) (C := RX1) (T := TX1) (N := 7) hx hb hq inX1 tyX1 tyX1_ok nmX1 hown hK hP hD hS 0 rfl rfl 0 (by decide) (hq _ qw_224) (fun _ h9 => h9) rfl (by decide +kernel) rfl rfl (Nat.le_of_ble_eq_true rfl) dX1_clear_2 (fun H locs hP hD hS => ?_)
  have hP : va_P (dC, dI) classes [(h0, .inr (1, [.int 0, .int h0_dishes, .int h0_guests, .ref h0lo, .ref h0sa, .ref h0ea, .ref h0cl])), (h0cl, .inl (kh0cl, 8, .inl gh0cl))] H := hP
  have hD : va_D A [(h0, .inr (1, [.int 0, .int h0_dishes, .int h0_guests, .ref h0lo, .ref h0sa, .ref h0ea, .ref h0cl])), (h0cl, .inl (kh0cl, 8, .inl gh0cl))] := hD
  refine lv_aload_n hx hb dX1_clear_5 rfl (lv_at hl 0 rfl) ?_
  refine lv_iconst (v := 0) hx hb dX1_clear_6 (by decide) ?_
  refine va_put (D := (dC, dI)) (ci := 1) (v := .int 0) (ty := .int) (C := RX1) (T := TX1) (N := 7) hx hb hq inX1 tyX1 tyX1_ok nmX1 hown hK hP hD hS 0 rfl rfl 1 (by decide) (hq _ qw_228) (fun _ h9 => h9) rfl (by decide +kernel) rfl rfl (Nat.le_of_ble_eq_true rfl) dX1_clear_7 (fun H locs hP hD hS => ?_)
  have hP : va_P (dC, dI) classes [(h0, .inr (1, [.int 0, .int 0, .int h0_guests, .ref h0lo, .ref h0sa, .ref h0ea, .ref h0cl])), (h0cl, .inl (kh0cl, 8, .inl gh0cl))] H := hP
  have hD : va_D A [(h0, .inr (1, [.int 0, .int 0, .int h0_guests, .ref h0lo, .ref h0sa, .ref h0ea, .ref h0cl])), (h0cl, .inl (kh0cl, 8, .inl gh0cl))] := hD
  refine lv_aload_n hx hb dX1_clear_10 rfl (lv_at hl 0 rfl) ?_
  refine lv_iconst (v := 0) hx hb dX1_clear_11 (by decide) ?_
  refine va_put (D := (dC, dI)) (ci := 1) (v := .int 0) (ty := .int) (C := RX1) (T := TX1) (N := 7) hx hb hq inX1 tyX1 tyX1_ok nmX1 hown hK hP hD hS 0 rfl rfl 2 (by decide) (hq _ qw_232) (fun _ h9 => h9) rfl (by decide +kernel) rfl rfl (Nat.le_of_ble_eq_true rfl) dX1_clear_12 (fun H locs hP hD hS => ?_)
  have hP : va_P (dC, dI) classes [(h0, .inr (1, [.int 0, .int 0, .int 0, .ref h0lo, .ref h0sa, .ref h0ea, .ref h0cl])), (h0cl, .inl (kh0cl, 8, .inl gh0cl))] H := hP
  have hD : va_D A [(h0, .inr (1, [.int 0, .int 0, .int 0, .ref h0lo, .ref h0sa, .ref h0ea, .ref h0cl])), (h0cl, .inl (kh0cl, 8, .inl gh0cl))] := hD
  refine lv_iconst (v := 0) hx hb dX1_clear_15 (by decide) ?_
  refine lv_istore_n (lv' := [(1, .int 0), (0, .ref h0)]) hx hb dX1_clear_16 rfl hl (by decide) rfl (fun ls hl => ?_)
  refine W.loop (I := fun n H locs g => ∃ (y_31 : Int32) (f_32 : Nat → Int32) (ls : Array Slot), bt 0 8 y_31 ∧ 8 - y_31.toInt < (n : Int) ∧ va_P (dC, dI) classes [(h0, .inr (1, [.int 0, .int 0, .int 0, .ref h0lo, .ref h0sa, .ref h0ea, .ref h0cl])), (h0cl, .inl (kh0cl, 8, .inl f_32))] H ∧ va_D A [(h0, .inr (1, [.int 0, .int 0, .int 0, .ref h0lo, .ref h0sa, .ref h0ea, .ref h0cl])), (h0cl, .inl (kh0cl, 8, .inl f_32))] ∧ va_S A s.heap H locs ∧ lv_has ls 2 [(1, .int y_31), (0, .ref h0)] ∧ g = F0 m 17 ls []) (fun H locs g h => ?_) (fun n ih17 H locs g h => ?_) (n := 9) ⟨0, gh0cl, _, (bt_w (bt_k (x := 0) (c := 0) (by decide)) (by decide)), (ms_0 (bt_k (x := 0) (c := 0) (by decide)) (by decide)), hP, hD, hS, hl, rfl⟩
  · obtain ⟨y_31, f_32, ls, bd_v_1, hm, hP, hD, hS, hl, rfl⟩ := h
    exact ms_z bd_v_1 hm
  · obtain ⟨y_31, f_32, ls, bd_v_1, hm17, hP, hD, hS, hl, rfl⟩ := h
    refine lv_iload_n hx hb dX1_clear_17 rfl (lv_at hl 0 rfl) ?_
    refine lv_bipush (v := 8) hx hb dX1_clear_18 (by decide) ?_
    refine lv_icmp_ge (tgt := 36) hx hb dX1_clear_20 (by decide) (fun c_54 => ?_) (fun c_54 => ?_)
    · refine W.widen (k := 0) (n := 0) (Nat.le_of_ble_eq_true rfl) (Nat.le_of_ble_eq_true rfl) ?_
      exact W.vret hx hb hr (fun t ht hW => ⟨⟨(), rfl, trivial, f_32, by rw [ht]; exact hP, va_K.moved hW.alike hK, hD⟩, hS.F ht⟩) hS.2.2 dX1_clear_36
    · refine lv_aload_n hx hb dX1_clear_23 rfl (lv_at hl 1 rfl) ?_
      refine va_get (D := (dC, dI)) (ci := 1) (v := .ref h0cl) (C := RX1) (T := TX1) (N := 7) hx hb hq inX1 hown hK hP 0 rfl rfl 6 (by decide) (hq _ qw_245) (fun _ h9 => h9) rfl dX1_clear_24 ?_
      refine lv_iload_n hx hb dX1_clear_27 rfl (lv_at hl 0 rfl) ?_
      refine lv_iconst (v := 0) hx hb dX1_clear_28 (by decide) ?_
      have b_55 : bt 0 7 y_31 := rf_lt_l bd_v_1 (bt_k (x := 8) (c := 8) (by decide)) (Int32.not_le.mp c_54) (by decide)
      refine va_iast hx hb hK hP hD hS 1 0 rfl rfl (bt_in b_55 (by decide)) dX1_clear_29 (fun H locs hP hD hS => ?_)
      obtain ⟨f_56, ef_56⟩ : ∃ f, f = upd f_32 (Int32.toNatClampNeg y_31) 0 := ⟨_, rfl⟩
      rw [← ef_56] at hP hD
      have hP : va_P (dC, dI) classes [(h0, .inr (1, [.int 0, .int 0, .int 0, .ref h0lo, .ref h0sa, .ref h0ea, .ref h0cl])), (h0cl, .inl (kh0cl, 8, .inl f_56))] H := hP
      have hD : va_D A [(h0, .inr (1, [.int 0, .int 0, .int 0, .ref h0lo, .ref h0sa, .ref h0ea, .ref h0cl])), (h0cl, .inl (kh0cl, 8, .inl f_56))] := hD
      obtain ⟨y_57, ey_57⟩ : ∃ y : Int32, y = y_31 + 1 := ⟨_, rfl⟩
      refine lv_iinc (v := y_57) (lv' := [(1, .int y_57), (0, .ref h0)]) hx hb dX1_clear_30 hl (k := 0) rfl (by rw [ey_57]; rfl) (by decide) rfl (fun ls hl => ?_)
      refine lv_goto (tgt := 17) hx hb dX1_clear_33 (by decide) ?_
      have b_58 : bt 1 8 y_57 := bt_add ey_57 b_55 (bt_k (x := 1) (c := 1) (by decide)) (by decide)
      exact ih17 _ _ _ ⟨y_57, f_56, _, (bt_w b_58 (by decide)), (ms_s ey_57 b_55 hm17 (by decide)), hP, hD, hS, hl, rfl⟩

set_option maxHeartbeats 4000000 in
set_option maxRecDepth 100000 in
/-- d_take -/
theorem d_take (l : Launch) (dC : Nat → ClassId) (dI : Nat → Nat → Nat) (sz : Nat) (h0 : Nat) (h0_deep : Int32) (h0_dishes : Int32) (h0_guests : Int32) (h0lo : Nat) (h0sa : Nat) (h0ea : Nat) (h0cl : Nat) (kh0lo : ClassId) (gh0lo : Nat → Int32) (kh0sa : ClassId) (gh0sa : Nat → Int32) (kh0ea : ClassId) (gh0ea : Nat → Int32) (kh0cl : ClassId) (gh0cl : Nat → Int32) (h1 : Nat) (h1_deep : Int32) (h1_dishes : Int32) (h1_guests : Int32) (h1lo : Nat) (h1sa : Nat) (h1ea : Nat) (h1cl : Nat) (kh1lo : ClassId) (gh1lo : Nat → Int32) (kh1sa : ClassId) (gh1sa : Nat → Int32) (kh1ea : ClassId) (gh1ea : Nat → Int32) (kh1cl : ClassId) (gh1cl : Nat → Int32) : Met l yX1_take (.code yX1_take cX1_take 3 none :: wsA) ({ frames := 0, cells := 0, slots := 0, locals := 0 }) (va_Pc [.ref h0, .ref h1] (fun U => U.heap.size = sz ∧ va_P (dC, dI) classes [(h0, .inr (1, [.int h0_deep, .int h0_dishes, .int h0_guests, .ref h0lo, .ref h0sa, .ref h0ea, .ref h0cl])), (h0lo, .inl (kh0lo, 8, .inl gh0lo)), (h0sa, .inl (kh0sa, 8, .inl gh0sa)), (h0ea, .inl (kh0ea, 8, .inl gh0ea)), (h0cl, .inl (kh0cl, 8, .inl gh0cl)), (h1, .inr (1, [.int h1_deep, .int h1_dishes, .int h1_guests, .ref h1lo, .ref h1sa, .ref h1ea, .ref h1cl])), (h1lo, .inl (kh1lo, 8, .inl gh1lo)), (h1sa, .inl (kh1sa, 8, .inl gh1sa)), (h1ea, .inl (kh1ea, 8, .inl gh1ea)), (h1cl, .inl (kh1cl, 8, .inl gh1cl))] U.heap ∧ va_K (dC, dI) classes [(kh0lo, .int), (kh0sa, .int), (kh0ea, .int), (kh0cl, .int), (kh1lo, .int), (kh1sa, .int), (kh1ea, .int), (kh1cl, .int)] U ∧ va_D (fun _ => True) [(h0, .inr (1, [.int h0_deep, .int h0_dishes, .int h0_guests, .ref h0lo, .ref h0sa, .ref h0ea, .ref h0cl])), (h0lo, .inl (kh0lo, 8, .inl gh0lo)), (h0sa, .inl (kh0sa, 8, .inl gh0sa)), (h0ea, .inl (kh0ea, 8, .inl gh0ea)), (h0cl, .inl (kh0cl, 8, .inl gh0cl)), (h1, .inr (1, [.int h1_deep, .int h1_dishes, .int h1_guests, .ref h1lo, .ref h1sa, .ref h1ea, .ref h1cl])), (h1lo, .inl (kh1lo, 8, .inl gh1lo)), (h1sa, .inl (kh1sa, 8, .inl gh1sa)), (h1ea, .inl (kh1ea, 8, .inl gh1ea)), (h1cl, .inl (kh1cl, 8, .inl gh1cl))] ∧ xE U)) (va_Qv (fun (_ : Unit) => True) (fun _ t => ∃ (f_88 : Nat → Int32) (f_89 : Nat → Int32) (f_90 : Nat → Int32) (f_91 : Nat → Int32), va_P (dC, dI) classes [(h0, .inr (1, [.int h1_deep, .int h1_dishes, .int h1_guests, .ref h0lo, .ref h0sa, .ref h0ea, .ref h0cl])), (h0lo, .inl (kh0lo, 8, .inl f_88)), (h0sa, .inl (kh0sa, 8, .inl f_89)), (h0ea, .inl (kh0ea, 8, .inl f_90)), (h0cl, .inl (kh0cl, 8, .inl f_91)), (h1, .inr (1, [.int h1_deep, .int h1_dishes, .int h1_guests, .ref h1lo, .ref h1sa, .ref h1ea, .ref h1cl])), (h1lo, .inl (kh1lo, 8, .inl gh1lo)), (h1sa, .inl (kh1sa, 8, .inl gh1sa)), (h1ea, .inl (kh1ea, 8, .inl gh1ea)), (h1cl, .inl (kh1cl, 8, .inl gh1cl))] t.heap ∧ va_K (dC, dI) classes [(kh0lo, .int), (kh0sa, .int), (kh0ea, .int), (kh0cl, .int), (kh1lo, .int), (kh1sa, .int), (kh1ea, .int), (kh1cl, .int)] t ∧ va_D (va_A [(h0, .inr (1, [.int h0_deep, .int h0_dishes, .int h0_guests, .ref h0lo, .ref h0sa, .ref h0ea, .ref h0cl])), (h0lo, .inl (kh0lo, 8, .inl gh0lo)), (h0sa, .inl (kh0sa, 8, .inl gh0sa)), (h0ea, .inl (kh0ea, 8, .inl gh0ea)), (h0cl, .inl (kh0cl, 8, .inl gh0cl)), (h1, .inr (1, [.int h1_deep, .int h1_dishes, .int h1_guests, .ref h1lo, .ref h1sa, .ref h1ea, .ref h1cl])), (h1lo, .inl (kh1lo, 8, .inl gh1lo)), (h1sa, .inl (kh1sa, 8, .inl gh1sa)), (h1ea, .inl (kh1ea, 8, .inl gh1ea)), (h1cl, .inl (kh1cl, 8, .inl gh1cl))] sz) [(h0, .inr (1, [.int h1_deep, .int h1_dishes, .int h1_guests, .ref h0lo, .ref h0sa, .ref h0ea, .ref h0cl])), (h0lo, .inl (kh0lo, 8, .inl f_88)), (h0sa, .inl (kh0sa, 8, .inl f_89)), (h0ea, .inl (kh0ea, 8, .inl f_90)), (h0cl, .inl (kh0cl, 8, .inl f_91)), (h1, .inr (1, [.int h1_deep, .int h1_dishes, .int h1_guests, .ref h1lo, .ref h1sa, .ref h1ea, .ref h1cl])), (h1lo, .inl (kh1lo, 8, .inl gh1lo)), (h1sa, .inl (kh1sa, 8, .inl gh1sa)), (h1ea, .inl (kh1ea, 8, .inl gh1ea)), (h1cl, .inl (kh1cl, 8, .inl gh1cl))]) (va_A [(h0, .inr (1, [.int h0_deep, .int h0_dishes, .int h0_guests, .ref h0lo, .ref h0sa, .ref h0ea, .ref h0cl])), (h0lo, .inl (kh0lo, 8, .inl gh0lo)), (h0sa, .inl (kh0sa, 8, .inl gh0sa)), (h0ea, .inl (kh0ea, 8, .inl gh0ea)), (h0cl, .inl (kh0cl, 8, .inl gh0cl)), (h1, .inr (1, [.int h1_deep, .int h1_dishes, .int h1_guests, .ref h1lo, .ref h1sa, .ref h1ea, .ref h1cl])), (h1lo, .inl (kh1lo, 8, .inl gh1lo)), (h1sa, .inl (kh1sa, 8, .inl gh1sa)), (h1ea, .inl (kh1ea, 8, .inl gh1ea)), (h1cl, .inl (kh1cl, 8, .inl gh1cl))] sz)) 0 0 (va_A [(h0, .inr (1, [.int h0_deep, .int h0_dishes, .int h0_guests, .ref h0lo, .ref h0sa, .ref h0ea, .ref h0cl])), (h0lo, .inl (kh0lo, 8, .inl gh0lo)), (h0sa, .inl (kh0sa, 8, .inl gh0sa)), (h0ea, .inl (kh0ea, 8, .inl gh0ea)), (h0cl, .inl (kh0cl, 8, .inl gh0cl)), (h1, .inr (1, [.int h1_deep, .int h1_dishes, .int h1_guests, .ref h1lo, .ref h1sa, .ref h1ea, .ref h1cl])), (h1lo, .inl (kh1lo, 8, .inl gh1lo)), (h1sa, .inl (kh1sa, 8, .inl gh1sa)), (h1ea, .inl (kh1ea, 8, .inl gh1ea)), (h1cl, .inl (kh1cl, 8, .inl gh1cl))] sz) := by
  refine Met.ofW (cc := cX1_take) (maxL := 3) (ret := none) (by decide) rfl ?_
  intro p e s m args below meth c s₁ B hml hv
  obtain ⟨rfl, hsz, hP, hK, hD0, hE⟩ := hv
  have hx := B.exec
  have hb := B.bytes
  have hr := B.returns
  have hts := atoms_spec (ws := .code yX1_take cX1_take 3 none :: wsA) B.pre
  have hq : ∀ w ∈ wsA, w.before _ s = true := fun w h => hts w (List.mem_cons_of_mem _ h)
  have hown : s.vm.findClass RX1 = some m.cls := findClass_of_methodNamed B.named
  have hlocks := B.notSynchronized
  subst hsz
  have hD := hD0.self (sz := s.heap.size)
  generalize hAe : va_A [(h0, .inr (1, [.int h0_deep, .int h0_dishes, .int h0_guests, .ref h0lo, .ref h0sa, .ref h0ea, .ref h0cl])), (h0lo, .inl (kh0lo, 8, .inl gh0lo)), (h0sa, .inl (kh0sa, 8, .inl gh0sa)), (h0ea, .inl (kh0ea, 8, .inl gh0ea)), (h0cl, .inl (kh0cl, 8, .inl gh0cl)), (h1, .inr (1, [.int h1_deep, .int h1_dishes, .int h1_guests, .ref h1lo, .ref h1sa, .ref h1ea, .ref h1cl])), (h1lo, .inl (kh1lo, 8, .inl gh1lo)), (h1sa, .inl (kh1sa, 8, .inl gh1sa)), (h1ea, .inl (kh1ea, 8, .inl gh1ea)), (h1cl, .inl (kh1cl, 8, .inl gh1cl))] s.heap.size = A at hD ⊢
  have hA : ∀ q : Nat, s.heap.size ≤ q → A q := fun q h => by rw [← hAe]; exact Or.inr h
  have hS : va_S A s.heap s.heap [] := va_S.rf
  have hl := lv_entry ([.ref h0, .ref h1]) (n := 3) (Nat.le_of_ble_eq_true rfl)
  rw [lg_entry_eq]
  generalize (lg_sl ([.ref h0, .ref h1]) ++ List.replicate (3 - (lg_sl ([.ref h0, .ref h1])).length) Slot.unset).toArray = ls at hl ⊢
  have hl : lv_has ls 3 [(0, .ref h0), (1, .ref h1)] := hl
  refine lv_aload_n hx hb dX1_take_0 rfl (lv_at hl 0 rfl) ?_
  refine lv_aload_n hx hb dX1_take_1 rfl (lv_at hl 1 rfl) ?_
  refine va_get (D := (dC, dI)) (ci := 1) (v := .int h1_deep) (C := RX1) (T := TX1) (N := 7) hx hb hq inX1 hown hK hP 5 rfl rfl 0 (by decide) (hq _ qw_224) (fun _ h9 => h9) rfl dX1_take_2 ?_
  refine va_put (D := (dC, dI)) (ci := 1) (v := .int h1_deep) (ty := .int) (C := RX1) (T := TX1) (N := 7) hx hb hq inX1 tyX1 tyX1_ok nmX1 hown hK hP hD hS 0 rfl rfl 0 (by decide) (hq _ qw_224) (fun _ h9 => h9) rfl (by decide +kernel) rfl rfl (Nat.le_of_ble_eq_true rfl) dX1_take_5 (fun H locs hP hD hS => ?_)
  have hP : va_P (dC, dI) classes [(h0, .inr (1, [.int h1_deep, .int h0_dishes, .int h0_guests, .ref h0lo, .ref h0sa, .ref h0ea, .ref h0cl])), (h0lo, .inl (kh0lo, 8, .inl gh0lo)), (h0sa, .inl (kh0sa, 8, .inl gh0sa)), (h0ea, .inl (kh0ea, 8, .inl gh0ea)), (h0cl, .inl (kh0cl, 8, .inl gh0cl)), (h1, .inr (1, [.int h1_deep, .int h1_dishes, .int h1_guests, .ref h1lo, .ref h1sa, .ref h1ea, .ref h1cl])), (h1lo, .inl (kh1lo, 8, .inl gh1lo)), (h1sa, .inl (kh1sa, 8, .inl gh1sa)), (h1ea, .inl (kh1ea, 8, .inl gh1ea)), (h1cl, .inl (kh1cl, 8, .inl gh1cl))] H := hP
  have hD : va_D A [(h0, .inr (1, [.int h1_deep, .int h0_dishes, .int h0_guests, .ref h0lo, .ref h0sa, .ref h0ea, .ref h0cl])), (h0lo, .inl (kh0lo, 8, .inl gh0lo)), (h0sa, .inl (kh0sa, 8, .inl gh0sa)), (h0ea, .inl (kh0ea, 8, .inl gh0ea)), (h0cl, .inl (kh0cl, 8, .inl gh0cl)), (h1, .inr (1, [.int h1_deep, .int h1_dishes, .int h1_guests, .ref h1lo, .ref h1sa, .ref h1ea, .ref h1cl])), (h1lo, .inl (kh1lo, 8, .inl gh1lo)), (h1sa, .inl (kh1sa, 8, .inl gh1sa)), (h1ea, .inl (kh1ea, 8, .inl gh1ea)), (h1cl, .inl (kh1cl, 8, .inl gh1cl))] := hD
  refine lv_aload_n hx hb dX1_take_8 rfl (lv_at hl 0 rfl) ?_
  refine lv_aload_n hx hb dX1_take_9 rfl (lv_at hl 1 rfl) ?_
  refine va_get (D := (dC, dI)) (ci := 1) (v := .int h1_dishes) (C := RX1) (T := TX1) (N := 7) hx hb hq inX1 hown hK hP 5 rfl rfl 1 (by decide) (hq _ qw_228) (fun _ h9 => h9) rfl dX1_take_10 ?_
  refine va_put (D := (dC, dI)) (ci := 1) (v := .int h1_dishes) (ty := .int) (C := RX1) (T := TX1) (N := 7) hx hb hq inX1 tyX1 tyX1_ok nmX1 hown hK hP hD hS 0 rfl rfl 1 (by decide) (hq _ qw_228) (fun _ h9 => h9) rfl (by decide +kernel) rfl rfl (Nat.le_of_ble_eq_true rfl) dX1_take_13 (fun H locs hP hD hS => ?_)
  have hP : va_P (dC, dI) classes [(h0, .inr (1, [.int h1_deep, .int h1_dishes, .int h0_guests, .ref h0lo, .ref h0sa, .ref h0ea, .ref h0cl])), (h0lo, .inl (kh0lo, 8, .inl gh0lo)), (h0sa, .inl (kh0sa, 8, .inl gh0sa)), (h0ea, .inl (kh0ea, 8, .inl gh0ea)), (h0cl, .inl (kh0cl, 8, .inl gh0cl)), (h1, .inr (1, [.int h1_deep, .int h1_dishes, .int h1_guests, .ref h1lo, .ref h1sa, .ref h1ea, .ref h1cl])), (h1lo, .inl (kh1lo, 8, .inl gh1lo)), (h1sa, .inl (kh1sa, 8, .inl gh1sa)), (h1ea, .inl (kh1ea, 8, .inl gh1ea)), (h1cl, .inl (kh1cl, 8, .inl gh1cl))] H := hP
  have hD : va_D A [(h0, .inr (1, [.int h1_deep, .int h1_dishes, .int h0_guests, .ref h0lo, .ref h0sa, .ref h0ea, .ref h0cl])), (h0lo, .inl (kh0lo, 8, .inl gh0lo)), (h0sa, .inl (kh0sa, 8, .inl gh0sa)), (h0ea, .inl (kh0ea, 8, .inl gh0ea)), (h0cl, .inl (kh0cl, 8, .inl gh0cl)), (h1, .inr (1, [.int h1_deep, .int h1_dishes, .int h1_guests, .ref h1lo, .ref h1sa, .ref h1ea, .ref h1cl])), (h1lo, .inl (kh1lo, 8, .inl gh1lo)), (h1sa, .inl (kh1sa, 8, .inl gh1sa)), (h1ea, .inl (kh1ea, 8, .inl gh1ea)), (h1cl, .inl (kh1cl, 8, .inl gh1cl))] := hD
  refine lv_aload_n hx hb dX1_take_16 rfl (lv_at hl 0 rfl) ?_
  refine lv_aload_n hx hb dX1_take_17 rfl (lv_at hl 1 rfl) ?_
  refine va_get (D := (dC, dI)) (ci := 1) (v := .int h1_guests) (C := RX1) (T := TX1) (N := 7) hx hb hq inX1 hown hK hP 5 rfl rfl 2 (by decide) (hq _ qw_232) (fun _ h9 => h9) rfl dX1_take_18 ?_
  refine va_put (D := (dC, dI)) (ci := 1) (v := .int h1_guests) (ty := .int) (C := RX1) (T := TX1) (N := 7) hx hb hq inX1 tyX1 tyX1_ok nmX1 hown hK hP hD hS 0 rfl rfl 2 (by decide) (hq _ qw_232) (fun _ h9 => h9) rfl (by decide +kernel) rfl rfl (Nat.le_of_ble_eq_true rfl) dX1_take_21 (fun H locs hP hD hS => ?_)
  have hP : va_P (dC, dI) classes [(h0, .inr (1, [.int h1_deep, .int h1_dishes, .int h1_guests, .ref h0lo, .ref h0sa, .ref h0ea, .ref h0cl])), (h0lo, .inl (kh0lo, 8, .inl gh0lo)), (h0sa, .inl (kh0sa, 8, .inl gh0sa)), (h0ea, .inl (kh0ea, 8, .inl gh0ea)), (h0cl, .inl (kh0cl, 8, .inl gh0cl)), (h1, .inr (1, [.int h1_deep, .int h1_dishes, .int h1_guests, .ref h1lo, .ref h1sa, .ref h1ea, .ref h1cl])), (h1lo, .inl (kh1lo, 8, .inl gh1lo)), (h1sa, .inl (kh1sa, 8, .inl gh1sa)), (h1ea, .inl (kh1ea, 8, .inl gh1ea)), (h1cl, .inl (kh1cl, 8, .inl gh1cl))] H := hP
  have hD : va_D A [(h0, .inr (1, [.int h1_deep, .int h1_dishes, .int h1_guests, .ref h0lo, .ref h0sa, .ref h0ea, .ref h0cl])), (h0lo, .inl (kh0lo, 8, .inl gh0lo)), (h0sa, .inl (kh0sa, 8, .inl gh0sa)), (h0ea, .inl (kh0ea, 8, .inl gh0ea)), (h0cl, .inl (kh0cl, 8, .inl gh0cl)), (h1, .inr (1, [.int h1_deep, .int h1_dishes, .int h1_guests, .ref h1lo, .ref h1sa, .ref h1ea, .ref h1cl])), (h1lo, .inl (kh1lo, 8, .inl gh1lo)), (h1sa, .inl (kh1sa, 8, .inl gh1sa)), (h1ea, .inl (kh1ea, 8, .inl gh1ea)), (h1cl, .inl (kh1cl, 8, .inl gh1cl))] := hD
  refine lv_iconst (v := 0) hx hb dX1_take_24 (by decide) ?_
  refine lv_istore_n (lv' := [(2, .int 0), (0, .ref h0), (1, .ref h1)]) hx hb dX1_take_25 rfl hl (by decide) rfl (fun ls hl => ?_)
  refine W.loop (I := fun n H locs g => ∃ (y_100 : Int32) (f_101 : Nat → Int32) (f_102 : Nat → Int32) (f_103 : Nat → Int32) (f_104 : Nat → Int32) (ls : Array Slot), bt 0 8 y_100 ∧ 8 - y_100.toInt < (n : Int) ∧ va_P (dC, dI) classes [(h0, .inr (1, [.int h1_deep, .int h1_dishes, .int h1_guests, .ref h0lo, .ref h0sa, .ref h0ea, .ref h0cl])), (h0lo, .inl (kh0lo, 8, .inl f_101)), (h0sa, .inl (kh0sa, 8, .inl f_102)), (h0ea, .inl (kh0ea, 8, .inl f_103)), (h0cl, .inl (kh0cl, 8, .inl f_104)), (h1, .inr (1, [.int h1_deep, .int h1_dishes, .int h1_guests, .ref h1lo, .ref h1sa, .ref h1ea, .ref h1cl])), (h1lo, .inl (kh1lo, 8, .inl gh1lo)), (h1sa, .inl (kh1sa, 8, .inl gh1sa)), (h1ea, .inl (kh1ea, 8, .inl gh1ea)), (h1cl, .inl (kh1cl, 8, .inl gh1cl))] H ∧ va_D A [(h0, .inr (1, [.int h1_deep, .int h1_dishes, .int h1_guests, .ref h0lo, .ref h0sa, .ref h0ea, .ref h0cl])), (h0lo, .inl (kh0lo, 8, .inl f_101)), (h0sa, .inl (kh0sa, 8, .inl f_102)), (h0ea, .inl (kh0ea, 8, .inl f_103)), (h0cl, .inl (kh0cl, 8, .inl f_104)), (h1, .inr (1, [.int h1_deep, .int h1_dishes, .int h1_guests, .ref h1lo, .ref h1sa, .ref h1ea, .ref h1cl])), (h1lo, .inl (kh1lo, 8, .inl gh1lo)), (h1sa, .inl (kh1sa, 8, .inl gh1sa)), (h1ea, .inl (kh1ea, 8, .inl gh1ea)), (h1cl, .inl (kh1cl, 8, .inl gh1cl))] ∧ va_S A s.heap H locs ∧ lv_has ls 3 [(2, .int y_100), (0, .ref h0), (1, .ref h1)] ∧ g = F0 m 26 ls []) (fun H locs g h => ?_) (fun n ih26 H locs g h => ?_) (n := 9) ⟨0, gh0lo, gh0sa, gh0ea, gh0cl, _, (bt_w (bt_k (x := 0) (c := 0) (by decide)) (by decide)), (ms_0 (bt_k (x := 0) (c := 0) (by decide)) (by decide)), hP, hD, hS, hl, rfl⟩
  · obtain ⟨y_100, f_101, f_102, f_103, f_104, ls, bd_v_2, hm, hP, hD, hS, hl, rfl⟩ := h
    exact ms_z bd_v_2 hm
  · obtain ⟨y_100, f_101, f_102, f_103, f_104, ls, bd_v_2, hm26, hP, hD, hS, hl, rfl⟩ := h
    refine lv_iload_n hx hb dX1_take_26 rfl (lv_at hl 0 rfl) ?_
    refine lv_bipush (v := 8) hx hb dX1_take_27 (by decide) ?_
    refine lv_icmp_ge (tgt := 86) hx hb dX1_take_29 (by decide) (fun c_168 => ?_) (fun c_168 => ?_)
    · refine W.widen (k := 0) (n := 0) (Nat.le_of_ble_eq_true rfl) (Nat.le_of_ble_eq_true rfl) ?_
      exact W.vret hx hb hr (fun t ht hW => ⟨⟨(), rfl, trivial, f_101, f_102, f_103, f_104, by rw [ht]; exact hP, va_K.moved hW.alike hK, hD⟩, hS.F ht⟩) hS.2.2 dX1_take_86
    · refine lv_aload_n hx hb dX1_take_32 rfl (lv_at hl 1 rfl) ?_
      refine va_get (D := (dC, dI)) (ci := 1) (v := .ref h0lo) (C := RX1) (T := TX1) (N := 7) hx hb hq inX1 hown hK hP 0 rfl rfl 3 (by decide) (hq _ qw_236) (fun _ h9 => h9) rfl dX1_take_33 ?_
      refine lv_iload_n hx hb dX1_take_36 rfl (lv_at hl 0 rfl) ?_
      refine lv_aload_n hx hb dX1_take_37 rfl (lv_at hl 2 rfl) ?_
      refine va_get (D := (dC, dI)) (ci := 1) (v := .ref h1lo) (C := RX1) (T := TX1) (N := 7) hx hb hq inX1 hown hK hP 5 rfl rfl 3 (by decide) (hq _ qw_236) (fun _ h9 => h9) rfl dX1_take_38 ?_
      refine lv_iload_n hx hb dX1_take_41 rfl (lv_at hl 0 rfl) ?_
      have b_169 : bt 0 7 y_100 := rf_lt_l bd_v_2 (bt_k (x := 8) (c := 8) (by decide)) (Int32.not_le.mp c_168) (by decide)
      refine va_iald hx hb hK hP 6 4 rfl rfl (bt_in b_169 (by decide)) dX1_take_42 ?_
      refine lv_topi (fun y_170 ey_170 => ?_)
      refine va_iast hx hb hK hP hD hS 1 0 rfl rfl (bt_in b_169 (by decide)) dX1_take_43 (fun H locs hP hD hS => ?_)
      obtain ⟨f_171, ef_171⟩ : ∃ f, f = upd f_101 (Int32.toNatClampNeg y_100) y_170 := ⟨_, rfl⟩
      rw [← ef_171] at hP hD
      have hP : va_P (dC, dI) classes [(h0, .inr (1, [.int h1_deep, .int h1_dishes, .int h1_guests, .ref h0lo, .ref h0sa, .ref h0ea, .ref h0cl])), (h0lo, .inl (kh0lo, 8, .inl f_171)), (h0sa, .inl (kh0sa, 8, .inl f_102)), (h0ea, .inl (kh0ea, 8, .inl f_103)), (h0cl, .inl (kh0cl, 8, .inl f_104)), (h1, .inr (1, [.int h1_deep, .int h1_dishes, .int h1_guests, .ref h1lo, .ref h1sa, .ref h1ea, .ref h1cl])), (h1lo, .inl (kh1lo, 8, .inl gh1lo)), (h1sa, .inl (kh1sa, 8, .inl gh1sa)), (h1ea, .inl (kh1ea, 8, .inl gh1ea)), (h1cl, .inl (kh1cl, 8, .inl gh1cl))] H := hP
      have hD : va_D A [(h0, .inr (1, [.int h1_deep, .int h1_dishes, .int h1_guests, .ref h0lo, .ref h0sa, .ref h0ea, .ref h0cl])), (h0lo, .inl (kh0lo, 8, .inl f_171)), (h0sa, .inl (kh0sa, 8, .inl f_102)), (h0ea, .inl (kh0ea, 8, .inl f_103)), (h0cl, .inl (kh0cl, 8, .inl f_104)), (h1, .inr (1, [.int h1_deep, .int h1_dishes, .int h1_guests, .ref h1lo, .ref h1sa, .ref h1ea, .ref h1cl])), (h1lo, .inl (kh1lo, 8, .inl gh1lo)), (h1sa, .inl (kh1sa, 8, .inl gh1sa)), (h1ea, .inl (kh1ea, 8, .inl gh1ea)), (h1cl, .inl (kh1cl, 8, .inl gh1cl))] := hD
      refine lv_aload_n hx hb dX1_take_44 rfl (lv_at hl 1 rfl) ?_
      refine va_get (D := (dC, dI)) (ci := 1) (v := .ref h0sa) (C := RX1) (T := TX1) (N := 7) hx hb hq inX1 hown hK hP 0 rfl rfl 4 (by decide) (hq _ qw_239) (fun _ h9 => h9) rfl dX1_take_45 ?_
      refine lv_iload_n hx hb dX1_take_48 rfl (lv_at hl 0 rfl) ?_
      refine lv_aload_n hx hb dX1_take_49 rfl (lv_at hl 2 rfl) ?_
      refine va_get (D := (dC, dI)) (ci := 1) (v := .ref h1sa) (C := RX1) (T := TX1) (N := 7) hx hb hq inX1 hown hK hP 5 rfl rfl 4 (by decide) (hq _ qw_239) (fun _ h9 => h9) rfl dX1_take_50 ?_
      refine lv_iload_n hx hb dX1_take_53 rfl (lv_at hl 0 rfl) ?_
      refine va_iald hx hb hK hP 7 5 rfl rfl (bt_in b_169 (by decide)) dX1_take_54 ?_
      refine lv_topi (fun y_172 ey_172 => ?_)
      refine va_iast hx hb hK hP hD hS 2 1 rfl rfl (bt_in b_169 (by decide)) dX1_take_55 (fun H locs hP hD hS => ?_)
      obtain ⟨f_173, ef_173⟩ : ∃ f, f = upd f_102 (Int32.toNatClampNeg y_100) y_172 := ⟨_, rfl⟩
      rw [← ef_173] at hP hD
      have hP : va_P (dC, dI) classes [(h0, .inr (1, [.int h1_deep, .int h1_dishes, .int h1_guests, .ref h0lo, .ref h0sa, .ref h0ea, .ref h0cl])), (h0lo, .inl (kh0lo, 8, .inl f_171)), (h0sa, .inl (kh0sa, 8, .inl f_173)), (h0ea, .inl (kh0ea, 8, .inl f_103)), (h0cl, .inl (kh0cl, 8, .inl f_104)), (h1, .inr (1, [.int h1_deep, .int h1_dishes, .int h1_guests, .ref h1lo, .ref h1sa, .ref h1ea, .ref h1cl])), (h1lo, .inl (kh1lo, 8, .inl gh1lo)), (h1sa, .inl (kh1sa, 8, .inl gh1sa)), (h1ea, .inl (kh1ea, 8, .inl gh1ea)), (h1cl, .inl (kh1cl, 8, .inl gh1cl))] H := hP
      have hD : va_D A [(h0, .inr (1, [.int h1_deep, .int h1_dishes, .int h1_guests, .ref h0lo, .ref h0sa, .ref h0ea, .ref h0cl])), (h0lo, .inl (kh0lo, 8, .inl f_171)), (h0sa, .inl (kh0sa, 8, .inl f_173)), (h0ea, .inl (kh0ea, 8, .inl f_103)), (h0cl, .inl (kh0cl, 8, .inl f_104)), (h1, .inr (1, [.int h1_deep, .int h1_dishes, .int h1_guests, .ref h1lo, .ref h1sa, .ref h1ea, .ref h1cl])), (h1lo, .inl (kh1lo, 8, .inl gh1lo)), (h1sa, .inl (kh1sa, 8, .inl gh1sa)), (h1ea, .inl (kh1ea, 8, .inl gh1ea)), (h1cl, .inl (kh1cl, 8, .inl gh1cl))] := hD
      refine lv_aload_n hx hb dX1_take_56 rfl (lv_at hl 1 rfl) ?_
      refine va_get (D := (dC, dI)) (ci := 1) (v := .ref h0ea) (C := RX1) (T := TX1) (N := 7) hx hb hq inX1 hown hK hP 0 rfl rfl 5 (by decide) (hq _ qw_242) (fun _ h9 => h9) rfl dX1_take_57 ?_
      refine lv_iload_n hx hb dX1_take_60 rfl (lv_at hl 0 rfl) ?_
      refine lv_aload_n hx hb dX1_take_61 rfl (lv_at hl 2 rfl) ?_
      refine va_get (D := (dC, dI)) (ci := 1) (v := .ref h1ea) (C := RX1) (T := TX1) (N := 7) hx hb hq inX1 hown hK hP 5 rfl rfl 5 (by decide) (hq _ qw_242) (fun _ h9 => h9) rfl dX1_take_62 ?_
      refine lv_iload_n hx hb dX1_take_65 rfl (lv_at hl 0 rfl) ?_
      refine va_iald hx hb hK hP 8 6 rfl rfl (bt_in b_169 (by decide)) dX1_take_66 ?_
      refine lv_topi (fun y_174 ey_174 => ?_)
      refine va_iast hx hb hK hP hD hS 3 2 rfl rfl (bt_in b_169 (by decide)) dX1_take_67 (fun H locs hP hD hS => ?_)
      obtain ⟨f_175, ef_175⟩ : ∃ f, f = upd f_103 (Int32.toNatClampNeg y_100) y_174 := ⟨_, rfl⟩
      rw [← ef_175] at hP hD
      have hP : va_P (dC, dI) classes [(h0, .inr (1, [.int h1_deep, .int h1_dishes, .int h1_guests, .ref h0lo, .ref h0sa, .ref h0ea, .ref h0cl])), (h0lo, .inl (kh0lo, 8, .inl f_171)), (h0sa, .inl (kh0sa, 8, .inl f_173)), (h0ea, .inl (kh0ea, 8, .inl f_175)), (h0cl, .inl (kh0cl, 8, .inl f_104)), (h1, .inr (1, [.int h1_deep, .int h1_dishes, .int h1_guests, .ref h1lo, .ref h1sa, .ref h1ea, .ref h1cl])), (h1lo, .inl (kh1lo, 8, .inl gh1lo)), (h1sa, .inl (kh1sa, 8, .inl gh1sa)), (h1ea, .inl (kh1ea, 8, .inl gh1ea)), (h1cl, .inl (kh1cl, 8, .inl gh1cl))] H := hP
      have hD : va_D A [(h0, .inr (1, [.int h1_deep, .int h1_dishes, .int h1_guests, .ref h0lo, .ref h0sa, .ref h0ea, .ref h0cl])), (h0lo, .inl (kh0lo, 8, .inl f_171)), (h0sa, .inl (kh0sa, 8, .inl f_173)), (h0ea, .inl (kh0ea, 8, .inl f_175)), (h0cl, .inl (kh0cl, 8, .inl f_104)), (h1, .inr (1, [.int h1_deep, .int h1_dishes, .int h1_guests, .ref h1lo, .ref h1sa, .ref h1ea, .ref h1cl])), (h1lo, .inl (kh1lo, 8, .inl gh1lo)), (h1sa, .inl (kh1sa, 8, .inl gh1sa)), (h1ea, .inl (kh1ea, 8, .inl gh1ea)), (h1cl, .inl (kh1cl, 8, .inl gh1cl))] := hD
      refine lv_aload_n hx hb dX1_take_68 rfl (lv_at hl 1 rfl) ?_
      refine va_get (D := (dC, dI)) (ci := 1) (v := .ref h0cl) (C := RX1) (T := TX1) (N := 7) hx hb hq inX1 hown hK hP 0 rfl rfl 6 (by decide) (hq _ qw_245) (fun _ h9 => h9) rfl dX1_take_69 ?_
      refine lv_iload_n hx hb dX1_take_72 rfl (lv_at hl 0 rfl) ?_
      refine lv_aload_n hx hb dX1_take_73 rfl (lv_at hl 2 rfl) ?_
      refine va_get (D := (dC, dI)) (ci := 1) (v := .ref h1cl) (C := RX1) (T := TX1) (N := 7) hx hb hq inX1 hown hK hP 5 rfl rfl 6 (by decide) (hq _ qw_245) (fun _ h9 => h9) rfl dX1_take_74 ?_
      refine lv_iload_n hx hb dX1_take_77 rfl (lv_at hl 0 rfl) ?_
      refine va_iald hx hb hK hP 9 7 rfl rfl (bt_in b_169 (by decide)) dX1_take_78 ?_
      refine lv_topi (fun y_176 ey_176 => ?_)
      refine va_iast hx hb hK hP hD hS 4 3 rfl rfl (bt_in b_169 (by decide)) dX1_take_79 (fun H locs hP hD hS => ?_)
      obtain ⟨f_177, ef_177⟩ : ∃ f, f = upd f_104 (Int32.toNatClampNeg y_100) y_176 := ⟨_, rfl⟩
      rw [← ef_177] at hP hD
      have hP : va_P (dC, dI) classes [(h0, .inr (1, [.int h1_deep, .int h1_dishes, .int h1_guests, .ref h0lo, .ref h0sa, .ref h0ea, .ref h0cl])), (h0lo, .inl (kh0lo, 8, .inl f_171)), (h0sa, .inl (kh0sa, 8, .inl f_173)), (h0ea, .inl (kh0ea, 8, .inl f_175)), (h0cl, .inl (kh0cl, 8, .inl f_177)), (h1, .inr (1, [.int h1_deep, .int h1_dishes, .int h1_guests, .ref h1lo, .ref h1sa, .ref h1ea, .ref h1cl])), (h1lo, .inl (kh1lo, 8, .inl gh1lo)), (h1sa, .inl (kh1sa, 8, .inl gh1sa)), (h1ea, .inl (kh1ea, 8, .inl gh1ea)), (h1cl, .inl (kh1cl, 8, .inl gh1cl))] H := hP
      have hD : va_D A [(h0, .inr (1, [.int h1_deep, .int h1_dishes, .int h1_guests, .ref h0lo, .ref h0sa, .ref h0ea, .ref h0cl])), (h0lo, .inl (kh0lo, 8, .inl f_171)), (h0sa, .inl (kh0sa, 8, .inl f_173)), (h0ea, .inl (kh0ea, 8, .inl f_175)), (h0cl, .inl (kh0cl, 8, .inl f_177)), (h1, .inr (1, [.int h1_deep, .int h1_dishes, .int h1_guests, .ref h1lo, .ref h1sa, .ref h1ea, .ref h1cl])), (h1lo, .inl (kh1lo, 8, .inl gh1lo)), (h1sa, .inl (kh1sa, 8, .inl gh1sa)), (h1ea, .inl (kh1ea, 8, .inl gh1ea)), (h1cl, .inl (kh1cl, 8, .inl gh1cl))] := hD
      obtain ⟨y_178, ey_178⟩ : ∃ y : Int32, y = y_100 + 1 := ⟨_, rfl⟩
      refine lv_iinc (v := y_178) (lv' := [(2, .int y_178), (0, .ref h0), (1, .ref h1)]) hx hb dX1_take_80 hl (k := 0) rfl (by rw [ey_178]; rfl) (by decide) rfl (fun ls hl => ?_)
      refine lv_goto (tgt := 26) hx hb dX1_take_83 (by decide) ?_
      have b_179 : bt 1 8 y_178 := bt_add ey_178 b_169 (bt_k (x := 1) (c := 1) (by decide)) (by decide)
      exact ih26 _ _ _ ⟨y_178, f_171, f_173, f_175, f_177, _, (bt_w b_179 (by decide)), (ms_s ey_178 b_169 hm26 (by decide)), hP, hD, hS, hl, rfl⟩

set_option maxHeartbeats 4000000 in
set_option maxRecDepth 100000 in
/-- d_addDish -/
theorem d_addDish (l : Launch) (dC : Nat → ClassId) (dI : Nat → Nat → Nat) (sz : Nat) (h0 : Nat) (h0_deep : Int32) (h0_dishes : Int32) (h0_guests : Int32) (h0lo : Nat) (h0sa : Nat) (h0ea : Nat) (h0cl : Nat) (kh0lo : ClassId) (gh0lo : Nat → Int32) (kh0sa : ClassId) (gh0sa : Nat → Int32) (x0 : Int32) (x1 : Int32) : Met l yX1_addDish (.code yX1_addDish cX1_addDish 3 none :: wsA) ({ frames := 0, cells := 0, slots := 0, locals := 0 }) (va_Pc [.ref h0, .int x0, .int x1] (fun U => U.heap.size = sz ∧ va_P (dC, dI) classes [(h0, .inr (1, [.int h0_deep, .int h0_dishes, .int h0_guests, .ref h0lo, .ref h0sa, .ref h0ea, .ref h0cl])), (h0lo, .inl (kh0lo, 8, .inl gh0lo)), (h0sa, .inl (kh0sa, 8, .inl gh0sa))] U.heap ∧ va_K (dC, dI) classes [(kh0lo, .int), (kh0sa, .int)] U ∧ va_D (fun _ => True) [(h0, .inr (1, [.int h0_deep, .int h0_dishes, .int h0_guests, .ref h0lo, .ref h0sa, .ref h0ea, .ref h0cl])), (h0lo, .inl (kh0lo, 8, .inl gh0lo)), (h0sa, .inl (kh0sa, 8, .inl gh0sa))] ∧ xE U)) (va_Qv (fun (_ : Unit) => True) (fun _ t => ∃ (f_9 : Nat → Int32) (f_10 : Nat → Int32) (yy_8 : Nat → Int32), va_P (dC, dI) classes [(h0, .inr (1, [.int h0_deep, .int (yy_8 0), .int h0_guests, .ref h0lo, .ref h0sa, .ref h0ea, .ref h0cl])), (h0lo, .inl (kh0lo, 8, .inl f_9)), (h0sa, .inl (kh0sa, 8, .inl f_10))] t.heap ∧ va_K (dC, dI) classes [(kh0lo, .int), (kh0sa, .int)] t ∧ va_D (va_A [(h0, .inr (1, [.int h0_deep, .int h0_dishes, .int h0_guests, .ref h0lo, .ref h0sa, .ref h0ea, .ref h0cl])), (h0lo, .inl (kh0lo, 8, .inl gh0lo)), (h0sa, .inl (kh0sa, 8, .inl gh0sa))] sz) [(h0, .inr (1, [.int h0_deep, .int (yy_8 0), .int h0_guests, .ref h0lo, .ref h0sa, .ref h0ea, .ref h0cl])), (h0lo, .inl (kh0lo, 8, .inl f_9)), (h0sa, .inl (kh0sa, 8, .inl f_10))]) (va_A [(h0, .inr (1, [.int h0_deep, .int h0_dishes, .int h0_guests, .ref h0lo, .ref h0sa, .ref h0ea, .ref h0cl])), (h0lo, .inl (kh0lo, 8, .inl gh0lo)), (h0sa, .inl (kh0sa, 8, .inl gh0sa))] sz)) 0 0 (va_A [(h0, .inr (1, [.int h0_deep, .int h0_dishes, .int h0_guests, .ref h0lo, .ref h0sa, .ref h0ea, .ref h0cl])), (h0lo, .inl (kh0lo, 8, .inl gh0lo)), (h0sa, .inl (kh0sa, 8, .inl gh0sa))] sz) := by
  refine Met.ofW (cc := cX1_addDish) (maxL := 3) (ret := none) (by decide) rfl ?_
  intro p e s m args below meth c s₁ B hml hv
  obtain ⟨rfl, hsz, hP, hK, hD0, hE⟩ := hv
  have hx := B.exec
  have hb := B.bytes
  have hr := B.returns
  have hts := atoms_spec (ws := .code yX1_addDish cX1_addDish 3 none :: wsA) B.pre
  have hq : ∀ w ∈ wsA, w.before _ s = true := fun w h => hts w (List.mem_cons_of_mem _ h)
  have hown : s.vm.findClass RX1 = some m.cls := findClass_of_methodNamed B.named
  have hlocks := B.notSynchronized
  subst hsz
  have hD := hD0.self (sz := s.heap.size)
  generalize hAe : va_A [(h0, .inr (1, [.int h0_deep, .int h0_dishes, .int h0_guests, .ref h0lo, .ref h0sa, .ref h0ea, .ref h0cl])), (h0lo, .inl (kh0lo, 8, .inl gh0lo)), (h0sa, .inl (kh0sa, 8, .inl gh0sa))] s.heap.size = A at hD ⊢
  have hA : ∀ q : Nat, s.heap.size ≤ q → A q := fun q h => by rw [← hAe]; exact Or.inr h
  have hS : va_S A s.heap s.heap [] := va_S.rf
  have hl := lv_entry ([.ref h0, .int x0, .int x1]) (n := 3) (Nat.le_of_ble_eq_true rfl)
  rw [lg_entry_eq]
  generalize (lg_sl ([.ref h0, .int x0, .int x1]) ++ List.replicate (3 - (lg_sl ([.ref h0, .int x0, .int x1])).length) Slot.unset).toArray = ls at hl ⊢
  have hl : lv_has ls 3 [(0, .ref h0), (1, .int x0), (2, .int x1)] := hl
  refine lv_aload_n hx hb dX1_addDish_0 rfl (lv_at hl 0 rfl) ?_
  refine va_get (D := (dC, dI)) (ci := 1) (v := .ref h0lo) (C := RX1) (T := TX1) (N := 7) hx hb hq inX1 hown hK hP 0 rfl rfl 3 (by decide) (hq _ qw_236) (fun _ h9 => h9) rfl dX1_addDish_1 ?_
  refine lv_aload_n hx hb dX1_addDish_4 rfl (lv_at hl 0 rfl) ?_
  refine va_get (D := (dC, dI)) (ci := 1) (v := .int h0_dishes) (C := RX1) (T := TX1) (N := 7) hx hb hq inX1 hown hK hP 0 rfl rfl 1 (by decide) (hq _ qw_228) (fun _ h9 => h9) rfl dX1_addDish_5 ?_
  refine lv_bipush (v := 7) hx hb dX1_addDish_8 (by decide) ?_
  refine lv_iand hx hb dX1_addDish_10 ?_
  refine lv_topi (fun y_11 ey_11 => ?_)
  refine lv_iload_n hx hb dX1_addDish_11 rfl (lv_at hl 1 rfl) ?_
  have b_12 : bt 0 7 y_11 := bt_andr ey_11 (bt_k (x := 7) (c := 7) (by decide)) (by decide)
  refine va_iast hx hb hK hP hD hS 1 0 rfl rfl (bt_in b_12 (by decide)) dX1_addDish_12 (fun H locs hP hD hS => ?_)
  obtain ⟨f_13, ef_13⟩ : ∃ f, f = upd gh0lo (Int32.toNatClampNeg y_11) x0 := ⟨_, rfl⟩
  rw [← ef_13] at hP hD
  have hP : va_P (dC, dI) classes [(h0, .inr (1, [.int h0_deep, .int h0_dishes, .int h0_guests, .ref h0lo, .ref h0sa, .ref h0ea, .ref h0cl])), (h0lo, .inl (kh0lo, 8, .inl f_13)), (h0sa, .inl (kh0sa, 8, .inl gh0sa))] H := hP
  have hD : va_D A [(h0, .inr (1, [.int h0_deep, .int h0_dishes, .int h0_guests, .ref h0lo, .ref h0sa, .ref h0ea, .ref h0cl])), (h0lo, .inl (kh0lo, 8, .inl f_13)), (h0sa, .inl (kh0sa, 8, .inl gh0sa))] := hD
  refine lv_aload_n hx hb dX1_addDish_13 rfl (lv_at hl 0 rfl) ?_
  refine va_get (D := (dC, dI)) (ci := 1) (v := .ref h0sa) (C := RX1) (T := TX1) (N := 7) hx hb hq inX1 hown hK hP 0 rfl rfl 4 (by decide) (hq _ qw_239) (fun _ h9 => h9) rfl dX1_addDish_14 ?_
  refine lv_aload_n hx hb dX1_addDish_17 rfl (lv_at hl 0 rfl) ?_
  refine va_get (D := (dC, dI)) (ci := 1) (v := .int h0_dishes) (C := RX1) (T := TX1) (N := 7) hx hb hq inX1 hown hK hP 0 rfl rfl 1 (by decide) (hq _ qw_228) (fun _ h9 => h9) rfl dX1_addDish_18 ?_
  refine lv_bipush (v := 7) hx hb dX1_addDish_21 (by decide) ?_
  refine lv_iand hx hb dX1_addDish_23 ?_
  refine lv_topi (fun y_14 ey_14 => ?_)
  refine lv_iload_n hx hb dX1_addDish_24 rfl (lv_at hl 2 rfl) ?_
  have b_15 : bt 0 7 y_14 := bt_andr ey_14 (bt_k (x := 7) (c := 7) (by decide)) (by decide)
  refine va_iast hx hb hK hP hD hS 2 1 rfl rfl (bt_in b_15 (by decide)) dX1_addDish_25 (fun H locs hP hD hS => ?_)
  obtain ⟨f_16, ef_16⟩ : ∃ f, f = upd gh0sa (Int32.toNatClampNeg y_14) x1 := ⟨_, rfl⟩
  rw [← ef_16] at hP hD
  have hP : va_P (dC, dI) classes [(h0, .inr (1, [.int h0_deep, .int h0_dishes, .int h0_guests, .ref h0lo, .ref h0sa, .ref h0ea, .ref h0cl])), (h0lo, .inl (kh0lo, 8, .inl f_13)), (h0sa, .inl (kh0sa, 8, .inl f_16))] H := hP
  have hD : va_D A [(h0, .inr (1, [.int h0_deep, .int h0_dishes, .int h0_guests, .ref h0lo, .ref h0sa, .ref h0ea, .ref h0cl])), (h0lo, .inl (kh0lo, 8, .inl f_13)), (h0sa, .inl (kh0sa, 8, .inl f_16))] := hD
  refine lv_aload_n hx hb dX1_addDish_26 rfl (lv_at hl 0 rfl) ?_
  refine lv_dup hx hb dX1_addDish_27 rfl ?_
  refine va_get (D := (dC, dI)) (ci := 1) (v := .int h0_dishes) (C := RX1) (T := TX1) (N := 7) hx hb hq inX1 hown hK hP 0 rfl rfl 1 (by decide) (hq _ qw_228) (fun _ h9 => h9) rfl dX1_addDish_28 ?_
  refine lv_iconst (v := 1) hx hb dX1_addDish_31 (by decide) ?_
  refine lv_iadd hx hb dX1_addDish_32 ?_
  refine lv_topi (fun y_17 ey_17 => ?_)
  refine va_put (D := (dC, dI)) (ci := 1) (v := .int y_17) (ty := .int) (C := RX1) (T := TX1) (N := 7) hx hb hq inX1 tyX1 tyX1_ok nmX1 hown hK hP hD hS 0 rfl rfl 1 (by decide) (hq _ qw_228) (fun _ h9 => h9) rfl (by decide +kernel) rfl rfl (Nat.le_of_ble_eq_true rfl) dX1_addDish_33 (fun H locs hP hD hS => ?_)
  have hP : va_P (dC, dI) classes [(h0, .inr (1, [.int h0_deep, .int y_17, .int h0_guests, .ref h0lo, .ref h0sa, .ref h0ea, .ref h0cl])), (h0lo, .inl (kh0lo, 8, .inl f_13)), (h0sa, .inl (kh0sa, 8, .inl f_16))] H := hP
  have hD : va_D A [(h0, .inr (1, [.int h0_deep, .int y_17, .int h0_guests, .ref h0lo, .ref h0sa, .ref h0ea, .ref h0cl])), (h0lo, .inl (kh0lo, 8, .inl f_13)), (h0sa, .inl (kh0sa, 8, .inl f_16))] := hD
  refine W.widen (k := 0) (n := 0) (Nat.le_of_ble_eq_true rfl) (Nat.le_of_ble_eq_true rfl) ?_
  exact W.vret hx hb hr (fun t ht hW => ⟨⟨(), rfl, trivial, f_13, f_16, (fun i => [y_17].getD i 0), by rw [ht]; exact hP, va_K.moved hW.alike hK, hD⟩, hS.F ht⟩) hS.2.2 dX1_addDish_36

set_option maxHeartbeats 4000000 in
set_option maxRecDepth 100000 in
/-- d_addGuest -/
theorem d_addGuest (l : Launch) (dC : Nat → ClassId) (dI : Nat → Nat → Nat) (sz : Nat) (h0 : Nat) (h0_deep : Int32) (h0_dishes : Int32) (h0_guests : Int32) (h0lo : Nat) (h0sa : Nat) (h0ea : Nat) (h0cl : Nat) (kh0ea : ClassId) (gh0ea : Nat → Int32) (x0 : Int32) : Met l yX1_addGuest (.code yX1_addGuest cX1_addGuest 2 none :: wsA) ({ frames := 0, cells := 0, slots := 0, locals := 0 }) (va_Pc [.ref h0, .int x0] (fun U => U.heap.size = sz ∧ va_P (dC, dI) classes [(h0, .inr (1, [.int h0_deep, .int h0_dishes, .int h0_guests, .ref h0lo, .ref h0sa, .ref h0ea, .ref h0cl])), (h0ea, .inl (kh0ea, 8, .inl gh0ea))] U.heap ∧ va_K (dC, dI) classes [(kh0ea, .int)] U ∧ va_D (fun _ => True) [(h0, .inr (1, [.int h0_deep, .int h0_dishes, .int h0_guests, .ref h0lo, .ref h0sa, .ref h0ea, .ref h0cl])), (h0ea, .inl (kh0ea, 8, .inl gh0ea))] ∧ xE U)) (va_Qv (fun (_ : Unit) => True) (fun _ t => ∃ (f_6 : Nat → Int32) (yy_5 : Nat → Int32), va_P (dC, dI) classes [(h0, .inr (1, [.int h0_deep, .int h0_dishes, .int (yy_5 0), .ref h0lo, .ref h0sa, .ref h0ea, .ref h0cl])), (h0ea, .inl (kh0ea, 8, .inl f_6))] t.heap ∧ va_K (dC, dI) classes [(kh0ea, .int)] t ∧ va_D (va_A [(h0, .inr (1, [.int h0_deep, .int h0_dishes, .int h0_guests, .ref h0lo, .ref h0sa, .ref h0ea, .ref h0cl])), (h0ea, .inl (kh0ea, 8, .inl gh0ea))] sz) [(h0, .inr (1, [.int h0_deep, .int h0_dishes, .int (yy_5 0), .ref h0lo, .ref h0sa, .ref h0ea, .ref h0cl])), (h0ea, .inl (kh0ea, 8, .inl f_6))]) (va_A [(h0, .inr (1, [.int h0_deep, .int h0_dishes, .int h0_guests, .ref h0lo, .ref h0sa, .ref h0ea, .ref h0cl])), (h0ea, .inl (kh0ea, 8, .inl gh0ea))] sz)) 0 0 (va_A [(h0, .inr (1, [.int h0_deep, .int h0_dishes, .int h0_guests, .ref h0lo, .ref h0sa, .ref h0ea, .ref h0cl])), (h0ea, .inl (kh0ea, 8, .inl gh0ea))] sz) := by
  refine Met.ofW (cc := cX1_addGuest) (maxL := 2) (ret := none) (by decide) rfl ?_
  intro p e s m args below meth c s₁ B hml hv
  obtain ⟨rfl, hsz, hP, hK, hD0, hE⟩ := hv
  have hx := B.exec
  have hb := B.bytes
  have hr := B.returns
  have hts := atoms_spec (ws := .code yX1_addGuest cX1_addGuest 2 none :: wsA) B.pre
  have hq : ∀ w ∈ wsA, w.before _ s = true := fun w h => hts w (List.mem_cons_of_mem _ h)
  have hown : s.vm.findClass RX1 = some m.cls := findClass_of_methodNamed B.named
  have hlocks := B.notSynchronized
  subst hsz
  have hD := hD0.self (sz := s.heap.size)
  generalize hAe : va_A [(h0, .inr (1, [.int h0_deep, .int h0_dishes, .int h0_guests, .ref h0lo, .ref h0sa, .ref h0ea, .ref h0cl])), (h0ea, .inl (kh0ea, 8, .inl gh0ea))] s.heap.size = A at hD ⊢
  have hA : ∀ q : Nat, s.heap.size ≤ q → A q := fun q h => by rw [← hAe]; exact Or.inr h
  have hS : va_S A s.heap s.heap [] := va_S.rf
  have hl := lv_entry ([.ref h0, .int x0]) (n := 2) (Nat.le_of_ble_eq_true rfl)
  rw [lg_entry_eq]
  generalize (lg_sl ([.ref h0, .int x0]) ++ List.replicate (2 - (lg_sl ([.ref h0, .int x0])).length) Slot.unset).toArray = ls at hl ⊢
  have hl : lv_has ls 2 [(0, .ref h0), (1, .int x0)] := hl
  refine lv_aload_n hx hb dX1_addGuest_0 rfl (lv_at hl 0 rfl) ?_
  refine va_get (D := (dC, dI)) (ci := 1) (v := .ref h0ea) (C := RX1) (T := TX1) (N := 7) hx hb hq inX1 hown hK hP 0 rfl rfl 5 (by decide) (hq _ qw_242) (fun _ h9 => h9) rfl dX1_addGuest_1 ?_
  refine lv_aload_n hx hb dX1_addGuest_4 rfl (lv_at hl 0 rfl) ?_
  refine va_get (D := (dC, dI)) (ci := 1) (v := .int h0_guests) (C := RX1) (T := TX1) (N := 7) hx hb hq inX1 hown hK hP 0 rfl rfl 2 (by decide) (hq _ qw_232) (fun _ h9 => h9) rfl dX1_addGuest_5 ?_
  refine lv_bipush (v := 7) hx hb dX1_addGuest_8 (by decide) ?_
  refine lv_iand hx hb dX1_addGuest_10 ?_
  refine lv_topi (fun y_7 ey_7 => ?_)
  refine lv_iload_n hx hb dX1_addGuest_11 rfl (lv_at hl 1 rfl) ?_
  have b_8 : bt 0 7 y_7 := bt_andr ey_7 (bt_k (x := 7) (c := 7) (by decide)) (by decide)
  refine va_iast hx hb hK hP hD hS 1 0 rfl rfl (bt_in b_8 (by decide)) dX1_addGuest_12 (fun H locs hP hD hS => ?_)
  obtain ⟨f_9, ef_9⟩ : ∃ f, f = upd gh0ea (Int32.toNatClampNeg y_7) x0 := ⟨_, rfl⟩
  rw [← ef_9] at hP hD
  have hP : va_P (dC, dI) classes [(h0, .inr (1, [.int h0_deep, .int h0_dishes, .int h0_guests, .ref h0lo, .ref h0sa, .ref h0ea, .ref h0cl])), (h0ea, .inl (kh0ea, 8, .inl f_9))] H := hP
  have hD : va_D A [(h0, .inr (1, [.int h0_deep, .int h0_dishes, .int h0_guests, .ref h0lo, .ref h0sa, .ref h0ea, .ref h0cl])), (h0ea, .inl (kh0ea, 8, .inl f_9))] := hD
  refine lv_aload_n hx hb dX1_addGuest_13 rfl (lv_at hl 0 rfl) ?_
  refine lv_dup hx hb dX1_addGuest_14 rfl ?_
  refine va_get (D := (dC, dI)) (ci := 1) (v := .int h0_guests) (C := RX1) (T := TX1) (N := 7) hx hb hq inX1 hown hK hP 0 rfl rfl 2 (by decide) (hq _ qw_232) (fun _ h9 => h9) rfl dX1_addGuest_15 ?_
  refine lv_iconst (v := 1) hx hb dX1_addGuest_18 (by decide) ?_
  refine lv_iadd hx hb dX1_addGuest_19 ?_
  refine lv_topi (fun y_10 ey_10 => ?_)
  refine va_put (D := (dC, dI)) (ci := 1) (v := .int y_10) (ty := .int) (C := RX1) (T := TX1) (N := 7) hx hb hq inX1 tyX1 tyX1_ok nmX1 hown hK hP hD hS 0 rfl rfl 2 (by decide) (hq _ qw_232) (fun _ h9 => h9) rfl (by decide +kernel) rfl rfl (Nat.le_of_ble_eq_true rfl) dX1_addGuest_20 (fun H locs hP hD hS => ?_)
  have hP : va_P (dC, dI) classes [(h0, .inr (1, [.int h0_deep, .int h0_dishes, .int y_10, .ref h0lo, .ref h0sa, .ref h0ea, .ref h0cl])), (h0ea, .inl (kh0ea, 8, .inl f_9))] H := hP
  have hD : va_D A [(h0, .inr (1, [.int h0_deep, .int h0_dishes, .int y_10, .ref h0lo, .ref h0sa, .ref h0ea, .ref h0cl])), (h0ea, .inl (kh0ea, 8, .inl f_9))] := hD
  refine W.widen (k := 0) (n := 0) (Nat.le_of_ble_eq_true rfl) (Nat.le_of_ble_eq_true rfl) ?_
  exact W.vret hx hb hr (fun t ht hW => ⟨⟨(), rfl, trivial, f_9, (fun i => [y_10].getD i 0), by rw [ht]; exact hP, va_K.moved hW.alike hK, hD⟩, hS.F ht⟩) hS.2.2 dX1_addGuest_23

set_option maxHeartbeats 4000000 in
set_option maxRecDepth 100000 in
/-- d_addClash -/
theorem d_addClash (l : Launch) (dC : Nat → ClassId) (dI : Nat → Nat → Nat) (sz : Nat) (h0 : Nat) (h0_deep : Int32) (h0_dishes : Int32) (h0_guests : Int32) (h0lo : Nat) (h0sa : Nat) (h0ea : Nat) (h0cl : Nat) (kh0cl : ClassId) (gh0cl : Nat → Int32) (x0 : Int32) (x1 : Int32) : Met l yX1_addClash (.code yX1_addClash cX1_addClash 3 none :: wsA) ({ frames := 0, cells := 0, slots := 0, locals := 0 }) (va_Pc [.ref h0, .int x0, .int x1] (fun U => U.heap.size = sz ∧ va_P (dC, dI) classes [(h0, .inr (1, [.int h0_deep, .int h0_dishes, .int h0_guests, .ref h0lo, .ref h0sa, .ref h0ea, .ref h0cl])), (h0cl, .inl (kh0cl, 8, .inl gh0cl))] U.heap ∧ va_K (dC, dI) classes [(kh0cl, .int)] U ∧ va_D (fun _ => True) [(h0, .inr (1, [.int h0_deep, .int h0_dishes, .int h0_guests, .ref h0lo, .ref h0sa, .ref h0ea, .ref h0cl])), (h0cl, .inl (kh0cl, 8, .inl gh0cl))] ∧ xE U)) (va_Qv (fun (_ : Unit) => True) (fun _ t => ∃ (f_13 : Nat → Int32), va_P (dC, dI) classes [(h0, .inr (1, [.int h0_deep, .int h0_dishes, .int h0_guests, .ref h0lo, .ref h0sa, .ref h0ea, .ref h0cl])), (h0cl, .inl (kh0cl, 8, .inl f_13))] t.heap ∧ va_K (dC, dI) classes [(kh0cl, .int)] t ∧ va_D (va_A [(h0, .inr (1, [.int h0_deep, .int h0_dishes, .int h0_guests, .ref h0lo, .ref h0sa, .ref h0ea, .ref h0cl])), (h0cl, .inl (kh0cl, 8, .inl gh0cl))] sz) [(h0, .inr (1, [.int h0_deep, .int h0_dishes, .int h0_guests, .ref h0lo, .ref h0sa, .ref h0ea, .ref h0cl])), (h0cl, .inl (kh0cl, 8, .inl f_13))]) (va_A [(h0, .inr (1, [.int h0_deep, .int h0_dishes, .int h0_guests, .ref h0lo, .ref h0sa, .ref h0ea, .ref h0cl])), (h0cl, .inl (kh0cl, 8, .inl gh0cl))] sz)) 0 0 (va_A [(h0, .inr (1, [.int h0_deep, .int h0_dishes, .int h0_guests, .ref h0lo, .ref h0sa, .ref h0ea, .ref h0cl])), (h0cl, .inl (kh0cl, 8, .inl gh0cl))] sz) := by
  refine Met.ofW (cc := cX1_addClash) (maxL := 3) (ret := none) (by decide) rfl ?_
  intro p e s m args below meth c s₁ B hml hv
  obtain ⟨rfl, hsz, hP, hK, hD0, hE⟩ := hv
  have hx := B.exec
  have hb := B.bytes
  have hr := B.returns
  have hts := atoms_spec (ws := .code yX1_addClash cX1_addClash 3 none :: wsA) B.pre
  have hq : ∀ w ∈ wsA, w.before _ s = true := fun w h => hts w (List.mem_cons_of_mem _ h)
  have hown : s.vm.findClass RX1 = some m.cls := findClass_of_methodNamed B.named
  have hlocks := B.notSynchronized
  subst hsz
  have hD := hD0.self (sz := s.heap.size)
  generalize hAe : va_A [(h0, .inr (1, [.int h0_deep, .int h0_dishes, .int h0_guests, .ref h0lo, .ref h0sa, .ref h0ea, .ref h0cl])), (h0cl, .inl (kh0cl, 8, .inl gh0cl))] s.heap.size = A at hD ⊢
  have hA : ∀ q : Nat, s.heap.size ≤ q → A q := fun q h => by rw [← hAe]; exact Or.inr h
  have hS : va_S A s.heap s.heap [] := va_S.rf
  have hl := lv_entry ([.ref h0, .int x0, .int x1]) (n := 3) (Nat.le_of_ble_eq_true rfl)
  rw [lg_entry_eq]
  generalize (lg_sl ([.ref h0, .int x0, .int x1]) ++ List.replicate (3 - (lg_sl ([.ref h0, .int x0, .int x1])).length) Slot.unset).toArray = ls at hl ⊢
  have hl : lv_has ls 3 [(0, .ref h0), (1, .int x0), (2, .int x1)] := hl
  refine lv_aload_n hx hb dX1_addClash_0 rfl (lv_at hl 0 rfl) ?_
  refine va_get (D := (dC, dI)) (ci := 1) (v := .ref h0cl) (C := RX1) (T := TX1) (N := 7) hx hb hq inX1 hown hK hP 0 rfl rfl 6 (by decide) (hq _ qw_245) (fun _ h9 => h9) rfl dX1_addClash_1 ?_
  refine lv_iload_n hx hb dX1_addClash_4 rfl (lv_at hl 1 rfl) ?_
  refine lv_bipush (v := 7) hx hb dX1_addClash_5 (by decide) ?_
  refine lv_iand hx hb dX1_addClash_7 ?_
  refine lv_topi (fun y_14 ey_14 => ?_)
  refine lv_dup2_11 hx hb dX1_addClash_8 rfl rfl ?_
  have b_15 : bt 0 7 y_14 := bt_andr ey_14 (bt_k (x := 7) (c := 7) (by decide)) (by decide)
  refine va_iald hx hb hK hP 1 0 rfl rfl (bt_in b_15 (by decide)) dX1_addClash_9 ?_
  refine lv_topi (fun y_16 ey_16 => ?_)
  refine lv_iconst (v := 1) hx hb dX1_addClash_10 (by decide) ?_
  refine lv_iload_n hx hb dX1_addClash_11 rfl (lv_at hl 2 rfl) ?_
  refine lv_ishl hx hb dX1_addClash_12 ?_
  refine lv_topi (fun y_17 ey_17 => ?_)
  refine lv_ior hx hb dX1_addClash_13 ?_
  refine lv_topi (fun y_18 ey_18 => ?_)
  refine va_iast hx hb hK hP hD hS 1 0 rfl rfl (bt_in b_15 (by decide)) dX1_addClash_14 (fun H locs hP hD hS => ?_)
  obtain ⟨f_19, ef_19⟩ : ∃ f, f = upd gh0cl (Int32.toNatClampNeg y_14) y_18 := ⟨_, rfl⟩
  rw [← ef_19] at hP hD
  have hP : va_P (dC, dI) classes [(h0, .inr (1, [.int h0_deep, .int h0_dishes, .int h0_guests, .ref h0lo, .ref h0sa, .ref h0ea, .ref h0cl])), (h0cl, .inl (kh0cl, 8, .inl f_19))] H := hP
  have hD : va_D A [(h0, .inr (1, [.int h0_deep, .int h0_dishes, .int h0_guests, .ref h0lo, .ref h0sa, .ref h0ea, .ref h0cl])), (h0cl, .inl (kh0cl, 8, .inl f_19))] := hD
  refine lv_aload_n hx hb dX1_addClash_15 rfl (lv_at hl 0 rfl) ?_
  refine va_get (D := (dC, dI)) (ci := 1) (v := .ref h0cl) (C := RX1) (T := TX1) (N := 7) hx hb hq inX1 hown hK hP 0 rfl rfl 6 (by decide) (hq _ qw_245) (fun _ h9 => h9) rfl dX1_addClash_16 ?_
  refine lv_iload_n hx hb dX1_addClash_19 rfl (lv_at hl 2 rfl) ?_
  refine lv_bipush (v := 7) hx hb dX1_addClash_20 (by decide) ?_
  refine lv_iand hx hb dX1_addClash_22 ?_
  refine lv_topi (fun y_20 ey_20 => ?_)
  refine lv_dup2_11 hx hb dX1_addClash_23 rfl rfl ?_
  have b_21 : bt 0 7 y_20 := bt_andr ey_20 (bt_k (x := 7) (c := 7) (by decide)) (by decide)
  refine va_iald hx hb hK hP 1 0 rfl rfl (bt_in b_21 (by decide)) dX1_addClash_24 ?_
  refine lv_topi (fun y_22 ey_22 => ?_)
  refine lv_iconst (v := 1) hx hb dX1_addClash_25 (by decide) ?_
  refine lv_iload_n hx hb dX1_addClash_26 rfl (lv_at hl 1 rfl) ?_
  refine lv_ishl hx hb dX1_addClash_27 ?_
  refine lv_topi (fun y_23 ey_23 => ?_)
  refine lv_ior hx hb dX1_addClash_28 ?_
  refine lv_topi (fun y_24 ey_24 => ?_)
  refine va_iast hx hb hK hP hD hS 1 0 rfl rfl (bt_in b_21 (by decide)) dX1_addClash_29 (fun H locs hP hD hS => ?_)
  obtain ⟨f_25, ef_25⟩ : ∃ f, f = upd f_19 (Int32.toNatClampNeg y_20) y_24 := ⟨_, rfl⟩
  rw [← ef_25] at hP hD
  have hP : va_P (dC, dI) classes [(h0, .inr (1, [.int h0_deep, .int h0_dishes, .int h0_guests, .ref h0lo, .ref h0sa, .ref h0ea, .ref h0cl])), (h0cl, .inl (kh0cl, 8, .inl f_25))] H := hP
  have hD : va_D A [(h0, .inr (1, [.int h0_deep, .int h0_dishes, .int h0_guests, .ref h0lo, .ref h0sa, .ref h0ea, .ref h0cl])), (h0cl, .inl (kh0cl, 8, .inl f_25))] := hD
  refine W.widen (k := 0) (n := 0) (Nat.le_of_ble_eq_true rfl) (Nat.le_of_ble_eq_true rfl) ?_
  exact W.vret hx hb hr (fun t ht hW => ⟨⟨(), rfl, trivial, f_25, by rw [ht]; exact hP, va_K.moved hW.alike hK, hD⟩, hS.F ht⟩) hS.2.2 dX1_addClash_30

set_option maxHeartbeats 4000000 in
set_option maxRecDepth 100000 in
/-- d_isTorn -/
theorem d_isTorn (l : Launch) (dC : Nat → ClassId) (dI : Nat → Nat → Nat) (sz : Nat) (h0 : Nat) (h0_deep : Int32) (h0_dishes : Int32) (h0_guests : Int32) (h0lo : Nat) (h0sa : Nat) (h0ea : Nat) (h0cl : Nat) (kh0cl : ClassId) (gh0cl : Nat → Int32) (x0 : Int32) : Met l yX1_isTorn (.code yX1_isTorn cX1_isTorn 4 (some .boolean) :: wsA) ({ frames := 0, cells := 0, slots := 0, locals := 0 }) (va_Pc [.ref h0, .int x0] (fun U => U.heap.size = sz ∧ va_P (dC, dI) classes [(h0, .inr (1, [.int h0_deep, .int h0_dishes, .int h0_guests, .ref h0lo, .ref h0sa, .ref h0ea, .ref h0cl])), (h0cl, .inl (kh0cl, 8, .inl gh0cl))] U.heap ∧ va_K (dC, dI) classes [(kh0cl, .int)] U ∧ va_D (fun _ => True) [(h0, .inr (1, [.int h0_deep, .int h0_dishes, .int h0_guests, .ref h0lo, .ref h0sa, .ref h0ea, .ref h0cl])), (h0cl, .inl (kh0cl, 8, .inl gh0cl))] ∧ xE U)) (va_Qi (fun (r : Int32) (_ : Unit) => True) (fun _ t => va_P (dC, dI) classes [(h0, .inr (1, [.int h0_deep, .int h0_dishes, .int h0_guests, .ref h0lo, .ref h0sa, .ref h0ea, .ref h0cl])), (h0cl, .inl (kh0cl, 8, .inl gh0cl))] t.heap ∧ va_K (dC, dI) classes [(kh0cl, .int)] t ∧ va_D (va_A [(h0, .inr (1, [.int h0_deep, .int h0_dishes, .int h0_guests, .ref h0lo, .ref h0sa, .ref h0ea, .ref h0cl])), (h0cl, .inl (kh0cl, 8, .inl gh0cl))] sz) [(h0, .inr (1, [.int h0_deep, .int h0_dishes, .int h0_guests, .ref h0lo, .ref h0sa, .ref h0ea, .ref h0cl])), (h0cl, .inl (kh0cl, 8, .inl gh0cl))]) (va_A [(h0, .inr (1, [.int h0_deep, .int h0_dishes, .int h0_guests, .ref h0lo, .ref h0sa, .ref h0ea, .ref h0cl])), (h0cl, .inl (kh0cl, 8, .inl gh0cl))] sz)) 0 0 (va_A [(h0, .inr (1, [.int h0_deep, .int h0_dishes, .int h0_guests, .ref h0lo, .ref h0sa, .ref h0ea, .ref h0cl])), (h0cl, .inl (kh0cl, 8, .inl gh0cl))] sz) := by
  refine Met.ofW (cc := cX1_isTorn) (maxL := 4) (ret := (some .boolean)) (by decide) rfl ?_
  intro p e s m args below meth c s₁ B hml hv
  obtain ⟨rfl, hsz, hP, hK, hD0, hE⟩ := hv
  have hx := B.exec
  have hb := B.bytes
  have hr := B.returns
  have hts := atoms_spec (ws := .code yX1_isTorn cX1_isTorn 4 (some .boolean) :: wsA) B.pre
  have hq : ∀ w ∈ wsA, w.before _ s = true := fun w h => hts w (List.mem_cons_of_mem _ h)
  have hown : s.vm.findClass RX1 = some m.cls := findClass_of_methodNamed B.named
  have hlocks := B.notSynchronized
  subst hsz
  have hD := hD0.self (sz := s.heap.size)
  generalize hAe : va_A [(h0, .inr (1, [.int h0_deep, .int h0_dishes, .int h0_guests, .ref h0lo, .ref h0sa, .ref h0ea, .ref h0cl])), (h0cl, .inl (kh0cl, 8, .inl gh0cl))] s.heap.size = A at hD ⊢
  have hA : ∀ q : Nat, s.heap.size ≤ q → A q := fun q h => by rw [← hAe]; exact Or.inr h
  have hS : va_S A s.heap s.heap [] := va_S.rf
  have hl := lv_entry ([.ref h0, .int x0]) (n := 4) (Nat.le_of_ble_eq_true rfl)
  rw [lg_entry_eq]
  generalize (lg_sl ([.ref h0, .int x0]) ++ List.replicate (4 - (lg_sl ([.ref h0, .int x0])).length) Slot.unset).toArray = ls at hl ⊢
  have hl : lv_has ls 4 [(0, .ref h0), (1, .int x0)] := hl
  refine lv_iload_n hx hb dX1_isTorn_0 rfl (lv_at hl 1 rfl) ?_
  refine lv_istore_n (lv' := [(2, .int x0), (0, .ref h0), (1, .int x0)]) hx hb dX1_isTorn_1 rfl hl (by decide) rfl (fun ls hl => ?_)
  refine lv_iconst (v := 0) hx hb dX1_isTorn_2 (by decide) ?_
  refine lv_istore_n (lv' := [(3, .int 0), (2, .int x0), (0, .ref h0), (1, .int x0)]) hx hb dX1_isTorn_3 rfl hl (by decide) rfl (fun ls hl => ?_)
  refine W.loop (I := fun n H locs g => ∃ (y_84 : Int32) (y_85 : Int32) (ls : Array Slot), bt 0 8 y_84 ∧ 8 - y_84.toInt < (n : Int) ∧ va_P (dC, dI) classes [(h0, .inr (1, [.int h0_deep, .int h0_dishes, .int h0_guests, .ref h0lo, .ref h0sa, .ref h0ea, .ref h0cl])), (h0cl, .inl (kh0cl, 8, .inl gh0cl))] H ∧ va_D A [(h0, .inr (1, [.int h0_deep, .int h0_dishes, .int h0_guests, .ref h0lo, .ref h0sa, .ref h0ea, .ref h0cl])), (h0cl, .inl (kh0cl, 8, .inl gh0cl))] ∧ va_S A s.heap H locs ∧ lv_has ls 4 [(3, .int y_84), (2, .int y_85), (0, .ref h0), (1, .int x0)] ∧ g = F0 m 4 ls []) (fun H locs g h => ?_) (fun n ih4 H locs g h => ?_) (n := 9) ⟨0, x0, _, (bt_w (bt_k (x := 0) (c := 0) (by decide)) (by decide)), (ms_0 (bt_k (x := 0) (c := 0) (by decide)) (by decide)), hP, hD, hS, hl, rfl⟩
  · obtain ⟨y_84, y_85, ls, bd_v_3, hm, hP, hD, hS, hl, rfl⟩ := h
    exact ms_z bd_v_3 hm
  · obtain ⟨y_84, y_85, ls, bd_v_3, hm4, hP, hD, hS, hl, rfl⟩ := h
    refine lv_iload_n hx hb dX1_isTorn_4 rfl (lv_at hl 0 rfl) ?_
    refine lv_bipush (v := 8) hx hb dX1_isTorn_5 (by decide) ?_
    refine W.cut (I := fun H locs g => ∃ (ls : Array Slot), va_P (dC, dI) classes [(h0, .inr (1, [.int h0_deep, .int h0_dishes, .int h0_guests, .ref h0lo, .ref h0sa, .ref h0ea, .ref h0cl])), (h0cl, .inl (kh0cl, 8, .inl gh0cl))] H ∧ va_D A [(h0, .inr (1, [.int h0_deep, .int h0_dishes, .int h0_guests, .ref h0lo, .ref h0sa, .ref h0ea, .ref h0cl])), (h0cl, .inl (kh0cl, 8, .inl gh0cl))] ∧ va_S A s.heap H locs ∧ lv_has ls 4 [] ∧ g = F0 m 43 ls []) (fun H locs g h => ?_) (fun hJ43 => ?_)
    · obtain ⟨ls, hP, hD, hS, hl, rfl⟩ := h
      refine lv_iconst (v := 0) hx hb dX1_isTorn_43 (by decide) ?_
      refine W.widen (k := 0) (n := 0) (Nat.le_of_ble_eq_true rfl) (Nat.le_of_ble_eq_true rfl) ?_
      exact W.zret (v := 0) hx hb hr (by decide) (fun t ht hW => ⟨⟨0, (), rfl, trivial, by rw [ht]; exact hP, va_K.moved hW.alike hK, hD⟩, hS.F ht⟩) hS.2.2 dX1_isTorn_44
    refine lv_icmp_ge (tgt := 43) hx hb dX1_isTorn_7 (by decide) (fun c_153 => ?_) (fun c_153 => ?_)
    · exact hJ43 _ _ _ ⟨_, hP, hD, hS, (lv_sub hl [] rfl), rfl⟩
    · refine lv_iload_n hx hb dX1_isTorn_10 rfl (lv_at hl 1 rfl) ?_
      refine lv_if_eq (tgt := 43) hx hb dX1_isTorn_11 (by decide) (fun c_154 => ?_) (fun c_154 => ?_)
      · exact hJ43 _ _ _ ⟨_, hP, hD, hS, (lv_sub hl [] rfl), rfl⟩
      · refine lv_iload_n hx hb dX1_isTorn_14 rfl (lv_at hl 1 rfl) ?_
        refine lv_iconst (v := 1) hx hb dX1_isTorn_15 (by decide) ?_
        refine lv_iand hx hb dX1_isTorn_16 ?_
        refine lv_topi (fun y_155 ey_155 => ?_)
        refine W.cut (I := fun H locs g => ∃ (ls : Array Slot), va_P (dC, dI) classes [(h0, .inr (1, [.int h0_deep, .int h0_dishes, .int h0_guests, .ref h0lo, .ref h0sa, .ref h0ea, .ref h0cl])), (h0cl, .inl (kh0cl, 8, .inl gh0cl))] H ∧ va_D A [(h0, .inr (1, [.int h0_deep, .int h0_dishes, .int h0_guests, .ref h0lo, .ref h0sa, .ref h0ea, .ref h0cl])), (h0cl, .inl (kh0cl, 8, .inl gh0cl))] ∧ va_S A s.heap H locs ∧ lv_has ls 4 [(3, .int y_84), (2, .int y_85), (0, .ref h0), (1, .int x0)] ∧ g = F0 m 33 ls []) (fun H locs g h => ?_) (fun hJ33 => ?_)
        · obtain ⟨ls, hP, hD, hS, hl, rfl⟩ := h
          refine lv_iload_n hx hb dX1_isTorn_33 rfl (lv_at hl 1 rfl) ?_
          refine lv_iconst (v := 1) hx hb dX1_isTorn_34 (by decide) ?_
          refine lv_ishr hx hb dX1_isTorn_35 ?_
          refine lv_topi (fun y_163 ey_163 => ?_)
          refine lv_istore_n (lv' := [(2, .int y_163), (3, .int y_84), (0, .ref h0), (1, .int x0)]) hx hb dX1_isTorn_36 rfl hl (by decide) rfl (fun ls hl => ?_)
          obtain ⟨y_164, ey_164⟩ : ∃ y : Int32, y = y_84 + 1 := ⟨_, rfl⟩
          refine lv_iinc (v := y_164) (lv' := [(3, .int y_164), (2, .int y_163), (0, .ref h0), (1, .int x0)]) hx hb dX1_isTorn_37 hl (k := 1) rfl (by rw [ey_164]; rfl) (by decide) rfl (fun ls hl => ?_)
          refine lv_goto (tgt := 4) hx hb dX1_isTorn_40 (by decide) ?_
          have b_165 : bt 0 7 y_84 := rf_lt_l bd_v_3 (bt_k (x := 8) (c := 8) (by decide)) (Int32.not_le.mp c_153) (by decide)
          have b_166 : bt 1 8 y_164 := bt_add ey_164 b_165 (bt_k (x := 1) (c := 1) (by decide)) (by decide)
          exact ih4 _ _ _ ⟨y_164, y_163, _, (bt_w b_166 (by decide)), (ms_s ey_164 b_165 hm4 (by decide)), hP, hD, hS, hl, rfl⟩
        refine lv_if_eq (tgt := 33) hx hb dX1_isTorn_17 (by decide) (fun c_167 => ?_) (fun c_167 => ?_)
        · exact hJ33 _ _ _ ⟨_, hP, hD, hS, hl, rfl⟩
        · refine lv_aload_n hx hb dX1_isTorn_20 rfl (lv_at hl 2 rfl) ?_
          refine va_get (D := (dC, dI)) (ci := 1) (v := .ref h0cl) (C := RX1) (T := TX1) (N := 7) hx hb hq inX1 hown hK hP 0 rfl rfl 6 (by decide) (hq _ qw_245) (fun _ h9 => h9) rfl dX1_isTorn_21 ?_
          refine lv_iload_n hx hb dX1_isTorn_24 rfl (lv_at hl 0 rfl) ?_
          have b_168 : bt 0 7 y_84 := rf_lt_l bd_v_3 (bt_k (x := 8) (c := 8) (by decide)) (Int32.not_le.mp c_153) (by decide)
          refine va_iald hx hb hK hP 1 0 rfl rfl (bt_in b_168 (by decide)) dX1_isTorn_25 ?_
          refine lv_topi (fun y_169 ey_169 => ?_)
          refine lv_iload_n hx hb dX1_isTorn_26 rfl (lv_at hl 3 rfl) ?_
          refine lv_iand hx hb dX1_isTorn_27 ?_
          refine lv_topi (fun y_170 ey_170 => ?_)
          refine lv_if_eq (tgt := 33) hx hb dX1_isTorn_28 (by decide) (fun c_171 => ?_) (fun c_171 => ?_)
          · exact hJ33 _ _ _ ⟨_, hP, hD, hS, hl, rfl⟩
          · refine lv_iconst (v := 1) hx hb dX1_isTorn_31 (by decide) ?_
            refine W.widen (k := 0) (n := 0) (Nat.le_of_ble_eq_true rfl) (Nat.le_of_ble_eq_true rfl) ?_
            exact W.zret (v := 1) hx hb hr (by decide) (fun t ht hW => ⟨⟨1, (), rfl, trivial, by rw [ht]; exact hP, va_K.moved hW.alike hK, hD⟩, hS.F ht⟩) hS.2.2 dX1_isTorn_32
