theorem qw_224 : (.fieldLink RX1 24 "SpokenBite$Dinne\x72" "deep" "I" : Cond) ∈ wsA := mA (i := 224) (by decide +kernel) rfl
theorem qw_228 : (.fieldLink RX1 28 "SpokenBite$Dinne\x72" "dishes" "I" : Cond) ∈ wsA := mA (i := 228) (by decide +kernel) rfl
theorem qw_232 : (.fieldLink RX1 31 "SpokenBite$Dinne\x72" "guests" "I" : Cond) ∈ wsA := mA (i := 232) (by decide +kernel) rfl
theorem qw_269 : (.fieldLink RX3 15 "SpokenBite$Evening" "minute" "I" : Cond) ∈ wsA := mA (i := 269) (by decide +kernel) rfl
theorem qw_275 : (.fieldLink RX3 23 "SpokenBite$Evening" "table" "I" : Cond) ∈ wsA := mA (i := 275) (by decide +kernel) rfl
theorem qw_279 : (.fieldLink RX3 29 "SpokenBite$Evening" "sitting" "I" : Cond) ∈ wsA := mA (i := 279) (by decide +kernel) rfl
theorem qw_282 : (.fieldLink RX3 32 "SpokenBite$Evening" "gullet" "I" : Cond) ∈ wsA := mA (i := 282) (by decide +kernel) rfl
theorem qw_285 : (.fieldLink RX3 35 "SpokenBite$Evening" "knows" "J" : Cond) ∈ wsA := mA (i := 285) (by decide +kernel) rfl
theorem dX1_take_0 : decode cX1_take 0 = .ok (.aload_n 0, 1) := by decide +kernel
theorem dX1_take_1 : decode cX1_take 1 = .ok (.aload_n 1, 1) := by decide +kernel
theorem dX1_take_2 : decode cX1_take 2 = .ok (.getfield 24, 3) := by decide +kernel
theorem dX1_take_5 : decode cX1_take 5 = .ok (.putfield 24, 3) := by decide +kernel
theorem dX1_take_8 : decode cX1_take 8 = .ok (.aload_n 0, 1) := by decide +kernel
theorem dX1_take_9 : decode cX1_take 9 = .ok (.aload_n 1, 1) := by decide +kernel
theorem dX1_take_10 : decode cX1_take 10 = .ok (.getfield 28, 3) := by decide +kernel
theorem dX1_take_13 : decode cX1_take 13 = .ok (.putfield 28, 3) := by decide +kernel
theorem dX1_take_16 : decode cX1_take 16 = .ok (.aload_n 0, 1) := by decide +kernel
theorem dX1_take_17 : decode cX1_take 17 = .ok (.aload_n 1, 1) := by decide +kernel
theorem dX1_take_18 : decode cX1_take 18 = .ok (.getfield 31, 3) := by decide +kernel
theorem dX1_take_21 : decode cX1_take 21 = .ok (.putfield 31, 3) := by decide +kernel
theorem dX1_take_24 : decode cX1_take 24 = .ok (.iconst 0, 1) := by decide +kernel
theorem dX1_take_25 : decode cX1_take 25 = .ok (.istore_n 2, 1) := by decide +kernel
theorem dX1_take_26 : decode cX1_take 26 = .ok (.iload_n 2, 1) := by decide +kernel
theorem dX1_take_27 : decode cX1_take 27 = .ok (.bipush 8, 2) := by decide +kernel
theorem dX1_take_29 : decode cX1_take 29 = .ok (.if_icmp .ge 57, 3) := by decide +kernel
theorem dX1_take_32 : decode cX1_take 32 = .ok (.aload_n 0, 1) := by decide +kernel
theorem dX1_take_33 : decode cX1_take 33 = .ok (.getfield 9, 3) := by decide +kernel
theorem dX1_take_36 : decode cX1_take 36 = .ok (.iload_n 2, 1) := by decide +kernel
theorem dX1_take_37 : decode cX1_take 37 = .ok (.aload_n 1, 1) := by decide +kernel
theorem dX1_take_38 : decode cX1_take 38 = .ok (.getfield 9, 3) := by decide +kernel
theorem dX1_take_41 : decode cX1_take 41 = .ok (.iload_n 2, 1) := by decide +kernel
theorem dX1_take_42 : decode cX1_take 42 = .ok (.iaload, 1) := by decide +kernel
theorem dX1_take_43 : decode cX1_take 43 = .ok (.iastore, 1) := by decide +kernel
theorem dX1_take_44 : decode cX1_take 44 = .ok (.aload_n 0, 1) := by decide +kernel
theorem dX1_take_45 : decode cX1_take 45 = .ok (.getfield 15, 3) := by decide +kernel
theorem dX1_take_48 : decode cX1_take 48 = .ok (.iload_n 2, 1) := by decide +kernel
theorem dX1_take_49 : decode cX1_take 49 = .ok (.aload_n 1, 1) := by decide +kernel
theorem dX1_take_50 : decode cX1_take 50 = .ok (.getfield 15, 3) := by decide +kernel
theorem dX1_take_53 : decode cX1_take 53 = .ok (.iload_n 2, 1) := by decide +kernel
theorem dX1_take_54 : decode cX1_take 54 = .ok (.iaload, 1) := by decide +kernel
theorem dX1_take_55 : decode cX1_take 55 = .ok (.iastore, 1) := by decide +kernel
theorem dX1_take_56 : decode cX1_take 56 = .ok (.aload_n 0, 1) := by decide +kernel
theorem dX1_take_57 : decode cX1_take 57 = .ok (.getfield 18, 3) := by decide +kernel
theorem dX1_take_60 : decode cX1_take 60 = .ok (.iload_n 2, 1) := by decide +kernel
theorem dX1_take_61 : decode cX1_take 61 = .ok (.aload_n 1, 1) := by decide +kernel
theorem dX1_take_62 : decode cX1_take 62 = .ok (.getfield 18, 3) := by decide +kernel
theorem dX1_take_65 : decode cX1_take 65 = .ok (.iload_n 2, 1) := by decide +kernel
theorem dX1_take_66 : decode cX1_take 66 = .ok (.iaload, 1) := by decide +kernel
theorem dX1_take_67 : decode cX1_take 67 = .ok (.iastore, 1) := by decide +kernel
theorem dX1_take_68 : decode cX1_take 68 = .ok (.aload_n 0, 1) := by decide +kernel
theorem dX1_take_69 : decode cX1_take 69 = .ok (.getfield 21, 3) := by decide +kernel
theorem dX1_take_72 : decode cX1_take 72 = .ok (.iload_n 2, 1) := by decide +kernel
theorem dX1_take_73 : decode cX1_take 73 = .ok (.aload_n 1, 1) := by decide +kernel
theorem dX1_take_74 : decode cX1_take 74 = .ok (.getfield 21, 3) := by decide +kernel
theorem dX1_take_77 : decode cX1_take 77 = .ok (.iload_n 2, 1) := by decide +kernel
theorem dX1_take_78 : decode cX1_take 78 = .ok (.iaload, 1) := by decide +kernel
theorem dX1_take_79 : decode cX1_take 79 = .ok (.iastore, 1) := by decide +kernel
theorem dX1_take_80 : decode cX1_take 80 = .ok (.iinc 2 1, 3) := by decide +kernel
theorem dX1_take_83 : decode cX1_take 83 = .ok (.goto (-57), 3) := by decide +kernel
theorem dX1_take_86 : decode cX1_take 86 = .ok (.return_, 1) := by decide +kernel
theorem dX3_take_0 : decode cX3_take 0 = .ok (.aload_n 0, 1) := by decide +kernel
theorem dX3_take_1 : decode cX3_take 1 = .ok (.aload_n 1, 1) := by decide +kernel
theorem dX3_take_2 : decode cX3_take 2 = .ok (.getfield 15, 3) := by decide +kernel
theorem dX3_take_5 : decode cX3_take 5 = .ok (.putfield 15, 3) := by decide +kernel
theorem dX3_take_8 : decode cX3_take 8 = .ok (.aload_n 0, 1) := by decide +kernel
theorem dX3_take_9 : decode cX3_take 9 = .ok (.aload_n 1, 1) := by decide +kernel
theorem dX3_take_10 : decode cX3_take 10 = .ok (.getfield 9, 3) := by decide +kernel
theorem dX3_take_13 : decode cX3_take 13 = .ok (.putfield 9, 3) := by decide +kernel
theorem dX3_take_16 : decode cX3_take 16 = .ok (.aload_n 0, 1) := by decide +kernel
theorem dX3_take_17 : decode cX3_take 17 = .ok (.aload_n 1, 1) := by decide +kernel
theorem dX3_take_18 : decode cX3_take 18 = .ok (.getfield 23, 3) := by decide +kernel
theorem dX3_take_21 : decode cX3_take 21 = .ok (.putfield 23, 3) := by decide +kernel
theorem dX3_take_24 : decode cX3_take 24 = .ok (.aload_n 0, 1) := by decide +kernel
theorem dX3_take_25 : decode cX3_take 25 = .ok (.aload_n 1, 1) := by decide +kernel
theorem dX3_take_26 : decode cX3_take 26 = .ok (.getfield 29, 3) := by decide +kernel
theorem dX3_take_29 : decode cX3_take 29 = .ok (.putfield 29, 3) := by decide +kernel
theorem dX3_take_32 : decode cX3_take 32 = .ok (.aload_n 0, 1) := by decide +kernel
theorem dX3_take_33 : decode cX3_take 33 = .ok (.aload_n 1, 1) := by decide +kernel
theorem dX3_take_34 : decode cX3_take 34 = .ok (.getfield 32, 3) := by decide +kernel
theorem dX3_take_37 : decode cX3_take 37 = .ok (.putfield 32, 3) := by decide +kernel
theorem dX3_take_40 : decode cX3_take 40 = .ok (.aload_n 0, 1) := by decide +kernel
theorem dX3_take_41 : decode cX3_take 41 = .ok (.aload_n 1, 1) := by decide +kernel
theorem dX3_take_42 : decode cX3_take 42 = .ok (.getfield 35, 3) := by decide +kernel
theorem dX3_take_45 : decode cX3_take 45 = .ok (.putfield 35, 3) := by decide +kernel
theorem dX3_take_48 : decode cX3_take 48 = .ok (.return_, 1) := by decide +kernel
theorem dX5_take_0 : decode cX5_take 0 = .ok (.aload_n 0, 1) := by decide +kernel
theorem dX5_take_1 : decode cX5_take 1 = .ok (.aload_n 1, 1) := by decide +kernel
theorem dX5_take_2 : decode cX5_take 2 = .ok (.getfield 24, 3) := by decide +kernel
theorem dX5_take_5 : decode cX5_take 5 = .ok (.putfield 24, 3) := by decide +kernel
theorem dX5_take_8 : decode cX5_take 8 = .ok (.iconst 0, 1) := by decide +kernel
theorem dX5_take_9 : decode cX5_take 9 = .ok (.istore_n 2, 1) := by decide +kernel
theorem dX5_take_10 : decode cX5_take 10 = .ok (.iload_n 2, 1) := by decide +kernel
theorem dX5_take_11 : decode cX5_take 11 = .ok (.bipush 10, 2) := by decide +kernel
theorem dX5_take_13 : decode cX5_take 13 = .ok (.if_icmp .ge 57, 3) := by decide +kernel
theorem dX5_take_16 : decode cX5_take 16 = .ok (.aload_n 0, 1) := by decide +kernel
theorem dX5_take_17 : decode cX5_take 17 = .ok (.getfield 9, 3) := by decide +kernel
theorem dX5_take_20 : decode cX5_take 20 = .ok (.iload_n 2, 1) := by decide +kernel
theorem dX5_take_21 : decode cX5_take 21 = .ok (.aload_n 1, 1) := by decide +kernel
theorem dX5_take_22 : decode cX5_take 22 = .ok (.getfield 9, 3) := by decide +kernel
theorem dX5_take_25 : decode cX5_take 25 = .ok (.iload_n 2, 1) := by decide +kernel
theorem dX5_take_26 : decode cX5_take 26 = .ok (.iaload, 1) := by decide +kernel
theorem dX5_take_27 : decode cX5_take 27 = .ok (.iastore, 1) := by decide +kernel
theorem dX5_take_28 : decode cX5_take 28 = .ok (.aload_n 0, 1) := by decide +kernel
theorem dX5_take_29 : decode cX5_take 29 = .ok (.getfield 15, 3) := by decide +kernel
theorem dX5_take_32 : decode cX5_take 32 = .ok (.iload_n 2, 1) := by decide +kernel
theorem dX5_take_33 : decode cX5_take 33 = .ok (.aload_n 1, 1) := by decide +kernel
theorem dX5_take_34 : decode cX5_take 34 = .ok (.getfield 15, 3) := by decide +kernel
theorem dX5_take_37 : decode cX5_take 37 = .ok (.iload_n 2, 1) := by decide +kernel
theorem dX5_take_38 : decode cX5_take 38 = .ok (.iaload, 1) := by decide +kernel
theorem dX5_take_39 : decode cX5_take 39 = .ok (.iastore, 1) := by decide +kernel
theorem dX5_take_40 : decode cX5_take 40 = .ok (.aload_n 0, 1) := by decide +kernel
theorem dX5_take_41 : decode cX5_take 41 = .ok (.getfield 18, 3) := by decide +kernel
theorem dX5_take_44 : decode cX5_take 44 = .ok (.iload_n 2, 1) := by decide +kernel
theorem dX5_take_45 : decode cX5_take 45 = .ok (.aload_n 1, 1) := by decide +kernel
theorem dX5_take_46 : decode cX5_take 46 = .ok (.getfield 18, 3) := by decide +kernel
theorem dX5_take_49 : decode cX5_take 49 = .ok (.iload_n 2, 1) := by decide +kernel
theorem dX5_take_50 : decode cX5_take 50 = .ok (.iaload, 1) := by decide +kernel
theorem dX5_take_51 : decode cX5_take 51 = .ok (.iastore, 1) := by decide +kernel
theorem dX5_take_52 : decode cX5_take 52 = .ok (.aload_n 0, 1) := by decide +kernel
theorem dX5_take_53 : decode cX5_take 53 = .ok (.getfield 21, 3) := by decide +kernel
theorem dX5_take_56 : decode cX5_take 56 = .ok (.iload_n 2, 1) := by decide +kernel
theorem dX5_take_57 : decode cX5_take 57 = .ok (.aload_n 1, 1) := by decide +kernel
theorem dX5_take_58 : decode cX5_take 58 = .ok (.getfield 21, 3) := by decide +kernel
theorem dX5_take_61 : decode cX5_take 61 = .ok (.iload_n 2, 1) := by decide +kernel
theorem dX5_take_62 : decode cX5_take 62 = .ok (.iaload, 1) := by decide +kernel
theorem dX5_take_63 : decode cX5_take 63 = .ok (.iastore, 1) := by decide +kernel
theorem dX5_take_64 : decode cX5_take 64 = .ok (.iinc 2 1, 3) := by decide +kernel
theorem dX5_take_67 : decode cX5_take 67 = .ok (.goto (-57), 3) := by decide +kernel
theorem dX5_take_70 : decode cX5_take 70 = .ok (.return_, 1) := by decide +kernel
set_option maxHeartbeats 4000000 in
set_option maxRecDepth 100000 in
/-- c_Dinner_take -/
theorem c_Dinner_take (l : Launch) (dC : Nat → ClassId) (dI : Nat → Nat → Nat) (sz : Nat) (h0 : Nat) (h1 : Nat) (a1 : Nat) (a2 : Nat) (a3 : Nat) (a4 : Nat) (b1 : Nat) (b2 : Nat) (b3 : Nat) (b4 : Nat) (ka1 : ClassId) (ka2 : ClassId) (ka3 : ClassId) (ka4 : ClassId) (ga1 : Nat → Int32) (ga2 : Nat → Int32) (ga3 : Nat → Int32) (ga4 : Nat → Int32) (kb1 : ClassId) (kb2 : ClassId) (kb3 : ClassId) (kb4 : ClassId) (gb1 : Nat → Int32) (gb2 : Nat → Int32) (gb3 : Nat → Int32) (gb4 : Nat → Int32) : Met l yX1_take (.code yX1_take cX1_take 3 none :: wsA) ({ frames := 0, cells := 0, slots := 0, locals := 0 }) (va_Pc [.ref h0, .ref h1] (fun U => U.heap.size = sz ∧ va_P (dC, dI) classes [(h0, .inr (1, [.int 0, .int 0, .int 0, .ref a1, .ref a2, .ref a3, .ref a4])), (h1, .inr (1, [.int 0, .int 0, .int 0, .ref b1, .ref b2, .ref b3, .ref b4])), (a1, .inl (ka1, 8, .inl ga1)), (a2, .inl (ka2, 8, .inl ga2)), (a3, .inl (ka3, 8, .inl ga3)), (a4, .inl (ka4, 8, .inl ga4)), (b1, .inl (kb1, 8, .inl gb1)), (b2, .inl (kb2, 8, .inl gb2)), (b3, .inl (kb3, 8, .inl gb3)), (b4, .inl (kb4, 8, .inl gb4))] U.heap ∧ va_K (dC, dI) classes [(ka1, .int), (ka2, .int), (ka3, .int), (ka4, .int), (kb1, .int), (kb2, .int), (kb3, .int), (kb4, .int)] U ∧ va_D (fun _ => True) [(h0, .inr (1, [.int 0, .int 0, .int 0, .ref a1, .ref a2, .ref a3, .ref a4])), (h1, .inr (1, [.int 0, .int 0, .int 0, .ref b1, .ref b2, .ref b3, .ref b4])), (a1, .inl (ka1, 8, .inl ga1)), (a2, .inl (ka2, 8, .inl ga2)), (a3, .inl (ka3, 8, .inl ga3)), (a4, .inl (ka4, 8, .inl ga4)), (b1, .inl (kb1, 8, .inl gb1)), (b2, .inl (kb2, 8, .inl gb2)), (b3, .inl (kb3, 8, .inl gb3)), (b4, .inl (kb4, 8, .inl gb4))] ∧ xE U)) (va_Qv (fun (_ : Unit) => True) (fun _ t => ∃ (o_f_58 : Nat → Int32) (o_f_60 : Nat → Int32) (o_f_62 : Nat → Int32) (o_f_64 : Nat → Int32), va_P (dC, dI) classes [(h0, .inr (1, [.int 0, .int 0, .int 0, .ref a1, .ref a2, .ref a3, .ref a4])), (h1, .inr (1, [.int 0, .int 0, .int 0, .ref b1, .ref b2, .ref b3, .ref b4])), (a1, .inl (ka1, 8, .inl o_f_58)), (a2, .inl (ka2, 8, .inl o_f_60)), (a3, .inl (ka3, 8, .inl o_f_62)), (a4, .inl (ka4, 8, .inl o_f_64)), (b1, .inl (kb1, 8, .inl gb1)), (b2, .inl (kb2, 8, .inl gb2)), (b3, .inl (kb3, 8, .inl gb3)), (b4, .inl (kb4, 8, .inl gb4))] t.heap ∧ va_K (dC, dI) classes [(ka1, .int), (ka2, .int), (ka3, .int), (ka4, .int), (kb1, .int), (kb2, .int), (kb3, .int), (kb4, .int)] t ∧ va_D (va_A [(h0, .inr (1, [.int 0, .int 0, .int 0, .ref a1, .ref a2, .ref a3, .ref a4])), (h1, .inr (1, [.int 0, .int 0, .int 0, .ref b1, .ref b2, .ref b3, .ref b4])), (a1, .inl (ka1, 8, .inl ga1)), (a2, .inl (ka2, 8, .inl ga2)), (a3, .inl (ka3, 8, .inl ga3)), (a4, .inl (ka4, 8, .inl ga4)), (b1, .inl (kb1, 8, .inl gb1)), (b2, .inl (kb2, 8, .inl gb2)), (b3, .inl (kb3, 8, .inl gb3)), (b4, .inl (kb4, 8, .inl gb4))] sz) [(h0, .inr (1, [.int 0, .int 0, .int 0, .ref a1, .ref a2, .ref a3, .ref a4])), (h1, .inr (1, [.int 0, .int 0, .int 0, .ref b1, .ref b2, .ref b3, .ref b4])), (a1, .inl (ka1, 8, .inl o_f_58)), (a2, .inl (ka2, 8, .inl o_f_60)), (a3, .inl (ka3, 8, .inl o_f_62)), (a4, .inl (ka4, 8, .inl o_f_64)), (b1, .inl (kb1, 8, .inl gb1)), (b2, .inl (kb2, 8, .inl gb2)), (b3, .inl (kb3, 8, .inl gb3)), (b4, .inl (kb4, 8, .inl gb4))]) (va_A [(h0, .inr (1, [.int 0, .int 0, .int 0, .ref a1, .ref a2, .ref a3, .ref a4])), (h1, .inr (1, [.int 0, .int 0, .int 0, .ref b1, .ref b2, .ref b3, .ref b4])), (a1, .inl (ka1, 8, .inl ga1)), (a2, .inl (ka2, 8, .inl ga2)), (a3, .inl (ka3, 8, .inl ga3)), (a4, .inl (ka4, 8, .inl ga4)), (b1, .inl (kb1, 8, .inl gb1)), (b2, .inl (kb2, 8, .inl gb2)), (b3, .inl (kb3, 8, .inl gb3)), (b4, .inl (kb4, 8, .inl gb4))] sz)) 0 0 (va_A [(h0, .inr (1, [.int 0, .int 0, .int 0, .ref a1, .ref a2, .ref a3, .ref a4])), (h1, .inr (1, [.int 0, .int 0, .int 0, .ref b1, .ref b2, .ref b3, .ref b4])), (a1, .inl (ka1, 8, .inl ga1)), (a2, .inl (ka2, 8, .inl ga2)), (a3, .inl (ka3, 8, .inl ga3)), (a4, .inl (ka4, 8, .inl ga4)), (b1, .inl (kb1, 8, .inl gb1)), (b2, .inl (kb2, 8, .inl gb2)), (b3, .inl (kb3, 8, .inl gb3)), (b4, .inl (kb4, 8, .inl gb4))] sz) := by
  refine Met.ofW (cc := cX1_take) (maxL := 3) (ret := none) (by decide) rfl ?_
  intro p e s m args below meth c s₁ B hml hv
  obtain ⟨rfl, hsz, hP, hK, hD0, hE⟩ := hv
  have hx := B.exec
  have hb := B.bytes
  have hr := B.returns
  have hts := atoms_spec (ws := .code yX1_take cX1_take 3 none :: wsA) B.pre
  have hq : ∀ w ∈ wsA, w.before _ s = true := fun w h => hts w (List.mem_cons_of_mem _ h)
  have hown : s.vm.findClass RX1 = some m.cls := findClass_of_methodNamed B.named
  have hlocks := B.notSynchronized
  subst hsz
  have hD := hD0.self (sz := s.heap.size)
  generalize hAe : va_A [(h0, .inr (1, [.int 0, .int 0, .int 0, .ref a1, .ref a2, .ref a3, .ref a4])), (h1, .inr (1, [.int 0, .int 0, .int 0, .ref b1, .ref b2, .ref b3, .ref b4])), (a1, .inl (ka1, 8, .inl ga1)), (a2, .inl (ka2, 8, .inl ga2)), (a3, .inl (ka3, 8, .inl ga3)), (a4, .inl (ka4, 8, .inl ga4)), (b1, .inl (kb1, 8, .inl gb1)), (b2, .inl (kb2, 8, .inl gb2)), (b3, .inl (kb3, 8, .inl gb3)), (b4, .inl (kb4, 8, .inl gb4))] s.heap.size = A at hD ⊢
  have hA : ∀ q : Nat, s.heap.size ≤ q → A q := fun q h => by rw [← hAe]; exact Or.inr h
  have hS : va_S A s.heap s.heap [] := va_S.rf
  have hl := lv_entry ([.ref h0, .ref h1]) (n := 3) (Nat.le_of_ble_eq_true rfl)
  rw [lg_entry_eq]
  generalize (lg_sl ([.ref h0, .ref h1]) ++ List.replicate (3 - (lg_sl ([.ref h0, .ref h1])).length) Slot.unset).toArray = ls at hl ⊢
  have hl : lv_has ls 3 [(0, .ref h0), (1, .ref h1)] := hl
  refine lv_aload_n hx hb dX1_take_0 rfl (lv_at hl 0 rfl) ?_
  refine lv_aload_n hx hb dX1_take_1 rfl (lv_at hl 1 rfl) ?_
  refine va_get (D := (dC, dI)) (ci := 1) (v := .int 0) (C := RX1) (T := TX1) (N := 7) hx hb hq inX1 hown hK hP 1 rfl rfl 0 (by decide) (hq _ qw_224) (fun _ h9 => h9) rfl dX1_take_2 ?_
  refine va_put (D := (dC, dI)) (ci := 1) (v := .int 0) (ty := .int) (C := RX1) (T := TX1) (N := 7) hx hb hq inX1 tyX1 tyX1_ok nmX1 hown hK hP hD hS 0 rfl rfl 0 (by decide) (hq _ qw_224) (fun _ h9 => h9) rfl (by decide +kernel) rfl rfl (Nat.le_of_ble_eq_true rfl) dX1_take_5 (fun H locs hP hD hS => ?_)
  have hP : va_P (dC, dI) classes [(h0, .inr (1, [.int 0, .int 0, .int 0, .ref a1, .ref a2, .ref a3, .ref a4])), (h1, .inr (1, [.int 0, .int 0, .int 0, .ref b1, .ref b2, .ref b3, .ref b4])), (a1, .inl (ka1, 8, .inl ga1)), (a2, .inl (ka2, 8, .inl ga2)), (a3, .inl (ka3, 8, .inl ga3)), (a4, .inl (ka4, 8, .inl ga4)), (b1, .inl (kb1, 8, .inl gb1)), (b2, .inl (kb2, 8, .inl gb2)), (b3, .inl (kb3, 8, .inl gb3)), (b4, .inl (kb4, 8, .inl gb4))] H := hP
  have hD : va_D A [(h0, .inr (1, [.int 0, .int 0, .int 0, .ref a1, .ref a2, .ref a3, .ref a4])), (h1, .inr (1, [.int 0, .int 0, .int 0, .ref b1, .ref b2, .ref b3, .ref b4])), (a1, .inl (ka1, 8, .inl ga1)), (a2, .inl (ka2, 8, .inl ga2)), (a3, .inl (ka3, 8, .inl ga3)), (a4, .inl (ka4, 8, .inl ga4)), (b1, .inl (kb1, 8, .inl gb1)), (b2, .inl (kb2, 8, .inl gb2)), (b3, .inl (kb3, 8, .inl gb3)), (b4, .inl (kb4, 8, .inl gb4))] := hD
  refine lv_aload_n hx hb dX1_take_8 rfl (lv_at hl 0 rfl) ?_
  refine lv_aload_n hx hb dX1_take_9 rfl (lv_at hl 1 rfl) ?_
  refine va_get (D := (dC, dI)) (ci := 1) (v := .int 0) (C := RX1) (T := TX1) (N := 7) hx hb hq inX1 hown hK hP 1 rfl rfl 1 (by decide) (hq _ qw_228) (fun _ h9 => h9) rfl dX1_take_10 ?_
  refine va_put (D := (dC, dI)) (ci := 1) (v := .int 0) (ty := .int) (C := RX1) (T := TX1) (N := 7) hx hb hq inX1 tyX1 tyX1_ok nmX1 hown hK hP hD hS 0 rfl rfl 1 (by decide) (hq _ qw_228) (fun _ h9 => h9) rfl (by decide +kernel) rfl rfl (Nat.le_of_ble_eq_true rfl) dX1_take_13 (fun H locs hP hD hS => ?_)
  have hP : va_P (dC, dI) classes [(h0, .inr (1, [.int 0, .int 0, .int 0, .ref a1, .ref a2, .ref a3, .ref a4])), (h1, .inr (1, [.int 0, .int 0, .int 0, .ref b1, .ref b2, .ref b3, .ref b4])), (a1, .inl (ka1, 8, .inl ga1)), (a2, .inl (ka2, 8, .inl ga2)), (a3, .inl (ka3, 8, .inl ga3)), (a4, .inl (ka4, 8, .inl ga4)), (b1, .inl (kb1, 8, .inl gb1)), (b2, .inl (kb2, 8, .inl gb2)), (b3, .inl (kb3, 8, .inl gb3)), (b4, .inl (kb4, 8, .inl gb4))] H := hP
  have hD : va_D A [(h0, .inr (1, [.int 0, .int 0, .int 0, .ref a1, .ref a2, .ref a3, .ref a4])), (h1, .inr (1, [.int 0, .int 0, .int 0, .ref b1, .ref b2, .ref b3, .ref b4])), (a1, .inl (ka1, 8, .inl ga1)), (a2, .inl (ka2, 8, .inl ga2)), (a3, .inl (ka3, 8, .inl ga3)), (a4, .inl (ka4, 8, .inl ga4)), (b1, .inl (kb1, 8, .inl gb1)), (b2, .inl (kb2, 8, .inl gb2)), (b3, .inl (kb3, 8, .inl gb3)), (b4, .inl (kb4, 8, .inl gb4))] := hD
  refine lv_aload_n hx hb dX1_take_16 rfl (lv_at hl 0 rfl) ?_
  refine lv_aload_n hx hb dX1_take_17 rfl (lv_at hl 1 rfl) ?_
  refine va_get (D := (dC, dI)) (ci := 1) (v := .int 0) (C := RX1) (T := TX1) (N := 7) hx hb hq inX1 hown hK hP 1 rfl rfl 2 (by decide) (hq _ qw_232) (fun _ h9 => h9) rfl dX1_take_18 ?_
  refine va_put (D := (dC, dI)) (ci := 1) (v := .int 0) (ty := .int) (C := RX1) (T := TX1) (N := 7) hx hb hq inX1 tyX1 tyX1_ok nmX1 hown hK hP hD hS 0 rfl rfl 2 (by decide) (hq _ qw_232) (fun _ h9 => h9) rfl (by decide +kernel) rfl rfl (Nat.le_of_ble_eq_true rfl) dX1_take_21 (fun H locs hP hD hS => ?_)
  have hP : va_P (dC, dI) classes [(h0, .inr (1, [.int 0, .int 0, .int 0, .ref a1, .ref a2, .ref a3, .ref a4])), (h1, .inr (1, [.int 0, .int 0, .int 0, .ref b1, .ref b2, .ref b3, .ref b4])), (a1, .inl (ka1, 8, .inl ga1)), (a2, .inl (ka2, 8, .inl ga2)), (a3, .inl (ka3, 8, .inl ga3)), (a4, .inl (ka4, 8, .inl ga4)), (b1, .inl (kb1, 8, .inl gb1)), (b2, .inl (kb2, 8, .inl gb2)), (b3, .inl (kb3, 8, .inl gb3)), (b4, .inl (kb4, 8, .inl gb4))] H := hP
  have hD : va_D A [(h0, .inr (1, [.int 0, .int 0, .int 0, .ref a1, .ref a2, .ref a3, .ref a4])), (h1, .inr (1, [.int 0, .int 0, .int 0, .ref b1, .ref b2, .ref b3, .ref b4])), (a1, .inl (ka1, 8, .inl ga1)), (a2, .inl (ka2, 8, .inl ga2)), (a3, .inl (ka3, 8, .inl ga3)), (a4, .inl (ka4, 8, .inl ga4)), (b1, .inl (kb1, 8, .inl gb1)), (b2, .inl (kb2, 8, .inl gb2)), (b3, .inl (kb3, 8, .inl gb3)), (b4, .inl (kb4, 8, .inl gb4))] := hD
  refine lv_iconst (v := 0) hx hb dX1_take_24 (by decide) ?_
  refine lv_istore_n (lv' := [(2, .int 0), (0, .ref h0), (1, .ref h1)]) hx hb dX1_take_25 rfl hl (by decide) rfl (fun ls hl => ?_)
  refine lv_iload_n hx hb dX1_take_26 rfl (lv_at hl 0 rfl) ?_
  refine lv_bipush (v := 8) hx hb dX1_take_27 (by decide) ?_
  refine lv_icmp_ge (tgt := 86) hx hb dX1_take_29 (by decide) (fun c9 => absurd c9 (by decide)) (fun _ => ?_)
  refine lv_aload_n hx hb dX1_take_32 rfl (lv_at hl 1 rfl) ?_
  refine va_get (D := (dC, dI)) (ci := 1) (v := .ref a1) (C := RX1) (T := TX1) (N := 7) hx hb hq inX1 hown hK hP 0 rfl rfl 3 (by decide) (hq _ qw_236) (fun _ h9 => h9) rfl dX1_take_33 ?_
  refine lv_iload_n hx hb dX1_take_36 rfl (lv_at hl 0 rfl) ?_
  refine lv_aload_n hx hb dX1_take_37 rfl (lv_at hl 2 rfl) ?_
  refine va_get (D := (dC, dI)) (ci := 1) (v := .ref b1) (C := RX1) (T := TX1) (N := 7) hx hb hq inX1 hown hK hP 1 rfl rfl 3 (by decide) (hq _ qw_236) (fun _ h9 => h9) rfl dX1_take_38 ?_
  refine lv_iload_n hx hb dX1_take_41 rfl (lv_at hl 0 rfl) ?_
  refine va_iald hx hb hK hP 6 4 rfl rfl (inr_ok rfl) dX1_take_42 ?_
  refine lv_topi (fun y_1 ey_1 => ?_)
  refine va_iast hx hb hK hP hD hS 2 0 rfl rfl (inr_ok rfl) dX1_take_43 (fun H locs hP hD hS => ?_)
  generalize upd ga1 (Int32.toNatClampNeg 0) y_1 = f_2 at hP hD
  have hP : va_P (dC, dI) classes [(h0, .inr (1, [.int 0, .int 0, .int 0, .ref a1, .ref a2, .ref a3, .ref a4])), (h1, .inr (1, [.int 0, .int 0, .int 0, .ref b1, .ref b2, .ref b3, .ref b4])), (a1, .inl (ka1, 8, .inl f_2)), (a2, .inl (ka2, 8, .inl ga2)), (a3, .inl (ka3, 8, .inl ga3)), (a4, .inl (ka4, 8, .inl ga4)), (b1, .inl (kb1, 8, .inl gb1)), (b2, .inl (kb2, 8, .inl gb2)), (b3, .inl (kb3, 8, .inl gb3)), (b4, .inl (kb4, 8, .inl gb4))] H := hP
  have hD : va_D A [(h0, .inr (1, [.int 0, .int 0, .int 0, .ref a1, .ref a2, .ref a3, .ref a4])), (h1, .inr (1, [.int 0, .int 0, .int 0, .ref b1, .ref b2, .ref b3, .ref b4])), (a1, .inl (ka1, 8, .inl f_2)), (a2, .inl (ka2, 8, .inl ga2)), (a3, .inl (ka3, 8, .inl ga3)), (a4, .inl (ka4, 8, .inl ga4)), (b1, .inl (kb1, 8, .inl gb1)), (b2, .inl (kb2, 8, .inl gb2)), (b3, .inl (kb3, 8, .inl gb3)), (b4, .inl (kb4, 8, .inl gb4))] := hD
  refine lv_aload_n hx hb dX1_take_44 rfl (lv_at hl 1 rfl) ?_
  refine va_get (D := (dC, dI)) (ci := 1) (v := .ref a2) (C := RX1) (T := TX1) (N := 7) hx hb hq inX1 hown hK hP 0 rfl rfl 4 (by decide) (hq _ qw_239) (fun _ h9 => h9) rfl dX1_take_45 ?_
  refine lv_iload_n hx hb dX1_take_48 rfl (lv_at hl 0 rfl) ?_
  refine lv_aload_n hx hb dX1_take_49 rfl (lv_at hl 2 rfl) ?_
  refine va_get (D := (dC, dI)) (ci := 1) (v := .ref b2) (C := RX1) (T := TX1) (N := 7) hx hb hq inX1 hown hK hP 1 rfl rfl 4 (by decide) (hq _ qw_239) (fun _ h9 => h9) rfl dX1_take_50 ?_
  refine lv_iload_n hx hb dX1_take_53 rfl (lv_at hl 0 rfl) ?_
  refine va_iald hx hb hK hP 7 5 rfl rfl (inr_ok rfl) dX1_take_54 ?_
  refine lv_topi (fun y_3 ey_3 => ?_)
  refine va_iast hx hb hK hP hD hS 3 1 rfl rfl (inr_ok rfl) dX1_take_55 (fun H locs hP hD hS => ?_)
  generalize upd ga2 (Int32.toNatClampNeg 0) y_3 = f_4 at hP hD
  have hP : va_P (dC, dI) classes [(h0, .inr (1, [.int 0, .int 0, .int 0, .ref a1, .ref a2, .ref a3, .ref a4])), (h1, .inr (1, [.int 0, .int 0, .int 0, .ref b1, .ref b2, .ref b3, .ref b4])), (a1, .inl (ka1, 8, .inl f_2)), (a2, .inl (ka2, 8, .inl f_4)), (a3, .inl (ka3, 8, .inl ga3)), (a4, .inl (ka4, 8, .inl ga4)), (b1, .inl (kb1, 8, .inl gb1)), (b2, .inl (kb2, 8, .inl gb2)), (b3, .inl (kb3, 8, .inl gb3)), (b4, .inl (kb4, 8, .inl gb4))] H := hP
  have hD : va_D A [(h0, .inr (1, [.int 0, .int 0, .int 0, .ref a1, .ref a2, .ref a3, .ref a4])), (h1, .inr (1, [.int 0, .int 0, .int 0, .ref b1, .ref b2, .ref b3, .ref b4])), (a1, .inl (ka1, 8, .inl f_2)), (a2, .inl (ka2, 8, .inl f_4)), (a3, .inl (ka3, 8, .inl ga3)), (a4, .inl (ka4, 8, .inl ga4)), (b1, .inl (kb1, 8, .inl gb1)), (b2, .inl (kb2, 8, .inl gb2)), (b3, .inl (kb3, 8, .inl gb3)), (b4, .inl (kb4, 8, .inl gb4))] := hD
  refine lv_aload_n hx hb dX1_take_56 rfl (lv_at hl 1 rfl) ?_
  refine va_get (D := (dC, dI)) (ci := 1) (v := .ref a3) (C := RX1) (T := TX1) (N := 7) hx hb hq inX1 hown hK hP 0 rfl rfl 5 (by decide) (hq _ qw_242) (fun _ h9 => h9) rfl dX1_take_57 ?_
  refine lv_iload_n hx hb dX1_take_60 rfl (lv_at hl 0 rfl) ?_
  refine lv_aload_n hx hb dX1_take_61 rfl (lv_at hl 2 rfl) ?_
  refine va_get (D := (dC, dI)) (ci := 1) (v := .ref b3) (C := RX1) (T := TX1) (N := 7) hx hb hq inX1 hown hK hP 1 rfl rfl 5 (by decide) (hq _ qw_242) (fun _ h9 => h9) rfl dX1_take_62 ?_
  refine lv_iload_n hx hb dX1_take_65 rfl (lv_at hl 0 rfl) ?_
  refine va_iald hx hb hK hP 8 6 rfl rfl (inr_ok rfl) dX1_take_66 ?_
  refine lv_topi (fun y_5 ey_5 => ?_)
  refine va_iast hx hb hK hP hD hS 4 2 rfl rfl (inr_ok rfl) dX1_take_67 (fun H locs hP hD hS => ?_)
  generalize upd ga3 (Int32.toNatClampNeg 0) y_5 = f_6 at hP hD
  have hP : va_P (dC, dI) classes [(h0, .inr (1, [.int 0, .int 0, .int 0, .ref a1, .ref a2, .ref a3, .ref a4])), (h1, .inr (1, [.int 0, .int 0, .int 0, .ref b1, .ref b2, .ref b3, .ref b4])), (a1, .inl (ka1, 8, .inl f_2)), (a2, .inl (ka2, 8, .inl f_4)), (a3, .inl (ka3, 8, .inl f_6)), (a4, .inl (ka4, 8, .inl ga4)), (b1, .inl (kb1, 8, .inl gb1)), (b2, .inl (kb2, 8, .inl gb2)), (b3, .inl (kb3, 8, .inl gb3)), (b4, .inl (kb4, 8, .inl gb4))] H := hP
  have hD : va_D A [(h0, .inr (1, [.int 0, .int 0, .int 0, .ref a1, .ref a2, .ref a3, .ref a4])), (h1, .inr (1, [.int 0, .int 0, .int 0, .ref b1, .ref b2, .ref b3, .ref b4])), (a1, .inl (ka1, 8, .inl f_2)), (a2, .inl (ka2, 8, .inl f_4)), (a3, .inl (ka3, 8, .inl f_6)), (a4, .inl (ka4, 8, .inl ga4)), (b1, .inl (kb1, 8, .inl gb1)), (b2, .inl (kb2, 8, .inl gb2)), (b3, .inl (kb3, 8, .inl gb3)), (b4, .inl (kb4, 8, .inl gb4))] := hD
  refine lv_aload_n hx hb dX1_take_68 rfl (lv_at hl 1 rfl) ?_
  refine va_get (D := (dC, dI)) (ci := 1) (v := .ref a4) (C := RX1) (T := TX1) (N := 7) hx hb hq inX1 hown hK hP 0 rfl rfl 6 (by decide) (hq _ qw_245) (fun _ h9 => h9) rfl dX1_take_69 ?_
  refine lv_iload_n hx hb dX1_take_72 rfl (lv_at hl 0 rfl) ?_
  refine lv_aload_n hx hb dX1_take_73 rfl (lv_at hl 2 rfl) ?_
  refine va_get (D := (dC, dI)) (ci := 1) (v := .ref b4) (C := RX1) (T := TX1) (N := 7) hx hb hq inX1 hown hK hP 1 rfl rfl 6 (by decide) (hq _ qw_245) (fun _ h9 => h9) rfl dX1_take_74 ?_
  refine lv_iload_n hx hb dX1_take_77 rfl (lv_at hl 0 rfl) ?_
  refine va_iald hx hb hK hP 9 7 rfl rfl (inr_ok rfl) dX1_take_78 ?_
  refine lv_topi (fun y_7 ey_7 => ?_)
  refine va_iast hx hb hK hP hD hS 5 3 rfl rfl (inr_ok rfl) dX1_take_79 (fun H locs hP hD hS => ?_)
  generalize upd ga4 (Int32.toNatClampNeg 0) y_7 = f_8 at hP hD
  have hP : va_P (dC, dI) classes [(h0, .inr (1, [.int 0, .int 0, .int 0, .ref a1, .ref a2, .ref a3, .ref a4])), (h1, .inr (1, [.int 0, .int 0, .int 0, .ref b1, .ref b2, .ref b3, .ref b4])), (a1, .inl (ka1, 8, .inl f_2)), (a2, .inl (ka2, 8, .inl f_4)), (a3, .inl (ka3, 8, .inl f_6)), (a4, .inl (ka4, 8, .inl f_8)), (b1, .inl (kb1, 8, .inl gb1)), (b2, .inl (kb2, 8, .inl gb2)), (b3, .inl (kb3, 8, .inl gb3)), (b4, .inl (kb4, 8, .inl gb4))] H := hP
  have hD : va_D A [(h0, .inr (1, [.int 0, .int 0, .int 0, .ref a1, .ref a2, .ref a3, .ref a4])), (h1, .inr (1, [.int 0, .int 0, .int 0, .ref b1, .ref b2, .ref b3, .ref b4])), (a1, .inl (ka1, 8, .inl f_2)), (a2, .inl (ka2, 8, .inl f_4)), (a3, .inl (ka3, 8, .inl f_6)), (a4, .inl (ka4, 8, .inl f_8)), (b1, .inl (kb1, 8, .inl gb1)), (b2, .inl (kb2, 8, .inl gb2)), (b3, .inl (kb3, 8, .inl gb3)), (b4, .inl (kb4, 8, .inl gb4))] := hD
  refine lv_iinc (v := 1) (lv' := [(2, .int 1), (0, .ref h0), (1, .ref h1)]) hx hb dX1_take_80 hl (k := 0) rfl (by decide) (by decide) rfl (fun ls hl => ?_)
  refine lv_goto (tgt := 26) hx hb dX1_take_83 (by decide) ?_
  refine lv_iload_n hx hb dX1_take_26 rfl (lv_at hl 0 rfl) ?_
  refine lv_bipush (v := 8) hx hb dX1_take_27 (by decide) ?_
  refine lv_icmp_ge (tgt := 86) hx hb dX1_take_29 (by decide) (fun c9 => absurd c9 (by decide)) (fun _ => ?_)
  refine lv_aload_n hx hb dX1_take_32 rfl (lv_at hl 1 rfl) ?_
  refine va_get (D := (dC, dI)) (ci := 1) (v := .ref a1) (C := RX1) (T := TX1) (N := 7) hx hb hq inX1 hown hK hP 0 rfl rfl 3 (by decide) (hq _ qw_236) (fun _ h9 => h9) rfl dX1_take_33 ?_
  refine lv_iload_n hx hb dX1_take_36 rfl (lv_at hl 0 rfl) ?_
  refine lv_aload_n hx hb dX1_take_37 rfl (lv_at hl 2 rfl) ?_
  refine va_get (D := (dC, dI)) (ci := 1) (v := .ref b1) (C := RX1) (T := TX1) (N := 7) hx hb hq inX1 hown hK hP 1 rfl rfl 3 (by decide) (hq _ qw_236) (fun _ h9 => h9) rfl dX1_take_38 ?_
  refine lv_iload_n hx hb dX1_take_41 rfl (lv_at hl 0 rfl) ?_
  refine va_iald hx hb hK hP 6 4 rfl rfl (inr_ok rfl) dX1_take_42 ?_
  refine lv_topi (fun y_9 ey_9 => ?_)
  refine va_iast hx hb hK hP hD hS 2 0 rfl rfl (inr_ok rfl) dX1_take_43 (fun H locs hP hD hS => ?_)
  generalize upd f_2 (Int32.toNatClampNeg 1) y_9 = f_10 at hP hD
  have hP : va_P (dC, dI) classes [(h0, .inr (1, [.int 0, .int 0, .int 0, .ref a1, .ref a2, .ref a3, .ref a4])), (h1, .inr (1, [.int 0, .int 0, .int 0, .ref b1, .ref b2, .ref b3, .ref b4])), (a1, .inl (ka1, 8, .inl f_10)), (a2, .inl (ka2, 8, .inl f_4)), (a3, .inl (ka3, 8, .inl f_6)), (a4, .inl (ka4, 8, .inl f_8)), (b1, .inl (kb1, 8, .inl gb1)), (b2, .inl (kb2, 8, .inl gb2)), (b3, .inl (kb3, 8, .inl gb3)), (b4, .inl (kb4, 8, .inl gb4))] H := hP
  have hD : va_D A [(h0, .inr (1, [.int 0, .int 0, .int 0, .ref a1, .ref a2, .ref a3, .ref a4])), (h1, .inr (1, [.int 0, .int 0, .int 0, .ref b1, .ref b2, .ref b3, .ref b4])), (a1, .inl (ka1, 8, .inl f_10)), (a2, .inl (ka2, 8, .inl f_4)), (a3, .inl (ka3, 8, .inl f_6)), (a4, .inl (ka4, 8, .inl f_8)), (b1, .inl (kb1, 8, .inl gb1)), (b2, .inl (kb2, 8, .inl gb2)), (b3, .inl (kb3, 8, .inl gb3)), (b4, .inl (kb4, 8, .inl gb4))] := hD
  refine lv_aload_n hx hb dX1_take_44 rfl (lv_at hl 1 rfl) ?_
  refine va_get (D := (dC, dI)) (ci := 1) (v := .ref a2) (C := RX1) (T := TX1) (N := 7) hx hb hq inX1 hown hK hP 0 rfl rfl 4 (by decide) (hq _ qw_239) (fun _ h9 => h9) rfl dX1_take_45 ?_
  refine lv_iload_n hx hb dX1_take_48 rfl (lv_at hl 0 rfl) ?_
  refine lv_aload_n hx hb dX1_take_49 rfl (lv_at hl 2 rfl) ?_
  refine va_get (D := (dC, dI)) (ci := 1) (v := .ref b2) (C := RX1) (T := TX1) (N := 7) hx hb hq inX1 hown hK hP 1 rfl rfl 4 (by decide) (hq _ qw_239) (fun _ h9 => h9) rfl dX1_take_50 ?_
  refine lv_iload_n hx hb dX1_take_53 rfl (lv_at hl 0 rfl) ?_
  refine va_iald hx hb hK hP 7 5 rfl rfl (inr_ok rfl) dX1_take_54 ?_
  refine lv_topi (fun y_11 ey_11 => ?_)
  refine va_iast hx hb hK hP hD hS 3 1 rfl rfl (inr_ok rfl) dX1_take_55 (fun H locs hP hD hS => ?_)
  generalize upd f_4 (Int32.toNatClampNeg 1) y_11 = f_12 at hP hD
  have hP : va_P (dC, dI) classes [(h0, .inr (1, [.int 0, .int 0, .int 0, .ref a1, .ref a2, .ref a3, .ref a4])), (h1, .inr (1, [.int 0, .int 0, .int 0, .ref b1, .ref b2, .ref b3, .ref b4])), (a1, .inl (ka1, 8, .inl f_10)), (a2, .inl (ka2, 8, .inl f_12)), (a3, .inl (ka3, 8, .inl f_6)), (a4, .inl (ka4, 8, .inl f_8)), (b1, .inl (kb1, 8, .inl gb1)), (b2, .inl (kb2, 8, .inl gb2)), (b3, .inl (kb3, 8, .inl gb3)), (b4, .inl (kb4, 8, .inl gb4))] H := hP
  have hD : va_D A [(h0, .inr (1, [.int 0, .int 0, .int 0, .ref a1, .ref a2, .ref a3, .ref a4])), (h1, .inr (1, [.int 0, .int 0, .int 0, .ref b1, .ref b2, .ref b3, .ref b4])), (a1, .inl (ka1, 8, .inl f_10)), (a2, .inl (ka2, 8, .inl f_12)), (a3, .inl (ka3, 8, .inl f_6)), (a4, .inl (ka4, 8, .inl f_8)), (b1, .inl (kb1, 8, .inl gb1)), (b2, .inl (kb2, 8, .inl gb2)), (b3, .inl (kb3, 8, .inl gb3)), (b4, .inl (kb4, 8, .inl gb4))] := hD
  refine lv_aload_n hx hb dX1_take_56 rfl (lv_at hl 1 rfl) ?_
  refine va_get (D := (dC, dI)) (ci := 1) (v := .ref a3) (C := RX1) (T := TX1) (N := 7) hx hb hq inX1 hown hK hP 0 rfl rfl 5 (by decide) (hq _ qw_242) (fun _ h9 => h9) rfl dX1_take_57 ?_
  refine lv_iload_n hx hb dX1_take_60 rfl (lv_at hl 0 rfl) ?_
  refine lv_aload_n hx hb dX1_take_61 rfl (lv_at hl 2 rfl) ?_
  refine va_get (D := (dC, dI)) (ci := 1) (v := .ref b3) (C := RX1) (T := TX1) (N := 7) hx hb hq inX1 hown hK hP 1 rfl rfl 5 (by decide) (hq _ qw_242) (fun _ h9 => h9) rfl dX1_take_62 ?_
  refine lv_iload_n hx hb dX1_take_65 rfl (lv_at hl 0 rfl) ?_
  refine va_iald hx hb hK hP 8 6 rfl rfl (inr_ok rfl) dX1_take_66 ?_
  refine lv_topi (fun y_13 ey_13 => ?_)
  refine va_iast hx hb hK hP hD hS 4 2 rfl rfl (inr_ok rfl) dX1_take_67 (fun H locs hP hD hS => ?_)
  generalize upd f_6 (Int32.toNatClampNeg 1) y_13 = f_14 at hP hD
  have hP : va_P (dC, dI) classes [(h0, .inr (1, [.int 0, .int 0, .int 0, .ref a1, .ref a2, .ref a3, .ref a4])), (h1, .inr (1, [.int 0, .int 0, .int 0, .ref b1, .ref b2, .ref b3, .ref b4])), (a1, .inl (ka1, 8, .inl f_10)), (a2, .inl (ka2, 8, .inl f_12)), (a3, .inl (ka3, 8, .inl f_14)), (a4, .inl (ka4, 8, .inl f_8)), (b1, .inl (kb1, 8, .inl gb1)), (b2, .inl (kb2, 8, .inl gb2)), (b3, .inl (kb3, 8, .inl gb3)), (b4, .inl (kb4, 8, .inl gb4))] H := hP
  have hD : va_D A [(h0, .inr (1, [.int 0, .int 0, .int 0, .ref a1, .ref a2, .ref a3, .ref a4])), (h1, .inr (1, [.int 0, .int 0, .int 0, .ref b1, .ref b2, .ref b3, .ref b4])), (a1, .inl (ka1, 8, .inl f_10)), (a2, .inl (ka2, 8, .inl f_12)), (a3, .inl (ka3, 8, .inl f_14)), (a4, .inl (ka4, 8, .inl f_8)), (b1, .inl (kb1, 8, .inl gb1)), (b2, .inl (kb2, 8, .inl gb2)), (b3, .inl (kb3, 8, .inl gb3)), (b4, .inl (kb4, 8, .inl gb4))] := hD
  refine lv_aload_n hx hb dX1_take_68 rfl (lv_at hl 1 rfl) ?_
  refine va_get (D := (dC, dI)) (ci := 1) (v := .ref a4) (C := RX1) (T := TX1) (N := 7) hx hb hq inX1 hown hK hP 0 rfl rfl 6 (by decide) (hq _ qw_245) (fun _ h9 => h9) rfl dX1_take_69 ?_
  refine lv_iload_n hx hb dX1_take_72 rfl (lv_at hl 0 rfl) ?_
  refine lv_aload_n hx hb dX1_take_73 rfl (lv_at hl 2 rfl) ?_
  refine va_get (D := (dC, dI)) (ci := 1) (v := .ref b4) (C := RX1) (T := TX1) (N := 7) hx hb hq inX1 hown hK hP 1 rfl rfl 6 (by decide) (hq _ qw_245) (fun _ h9 => h9) rfl dX1_take_74 ?_
  refine lv_iload_n hx hb dX1_take_77 rfl (lv_at hl 0 rfl) ?_
  refine va_iald hx hb hK hP 9 7 rfl rfl (inr_ok rfl) dX1_take_78 ?_
  refine lv_topi (fun y_15 ey_15 => ?_)
  refine va_iast hx hb hK hP hD hS 5 3 rfl rfl (inr_ok rfl) dX1_take_79 (fun H locs hP hD hS => ?_)
  generalize upd f_8 (Int32.toNatClampNeg 1) y_15 = f_16 at hP hD
  have hP : va_P (dC, dI) classes [(h0, .inr (1, [.int 0, .int 0, .int 0, .ref a1, .ref a2, .ref a3, .ref a4])), (h1, .inr (1, [.int 0, .int 0, .int 0, .ref b1, .ref b2, .ref b3, .ref b4])), (a1, .inl (ka1, 8, .inl f_10)), (a2, .inl (ka2, 8, .inl f_12)), (a3, .inl (ka3, 8, .inl f_14)), (a4, .inl (ka4, 8, .inl f_16)), (b1, .inl (kb1, 8, .inl gb1)), (b2, .inl (kb2, 8, .inl gb2)), (b3, .inl (kb3, 8, .inl gb3)), (b4, .inl (kb4, 8, .inl gb4))] H := hP
  have hD : va_D A [(h0, .inr (1, [.int 0, .int 0, .int 0, .ref a1, .ref a2, .ref a3, .ref a4])), (h1, .inr (1, [.int 0, .int 0, .int 0, .ref b1, .ref b2, .ref b3, .ref b4])), (a1, .inl (ka1, 8, .inl f_10)), (a2, .inl (ka2, 8, .inl f_12)), (a3, .inl (ka3, 8, .inl f_14)), (a4, .inl (ka4, 8, .inl f_16)), (b1, .inl (kb1, 8, .inl gb1)), (b2, .inl (kb2, 8, .inl gb2)), (b3, .inl (kb3, 8, .inl gb3)), (b4, .inl (kb4, 8, .inl gb4))] := hD
  refine lv_iinc (v := 2) (lv' := [(2, .int 2), (0, .ref h0), (1, .ref h1)]) hx hb dX1_take_80 hl (k := 0) rfl (by decide) (by decide) rfl (fun ls hl => ?_)
  refine lv_goto (tgt := 26) hx hb dX1_take_83 (by decide) ?_
  refine lv_iload_n hx hb dX1_take_26 rfl (lv_at hl 0 rfl) ?_
  refine lv_bipush (v := 8) hx hb dX1_take_27 (by decide) ?_
  refine lv_icmp_ge (tgt := 86) hx hb dX1_take_29 (by decide) (fun c9 => absurd c9 (by decide)) (fun _ => ?_)
  refine lv_aload_n hx hb dX1_take_32 rfl (lv_at hl 1 rfl) ?_
  refine va_get (D := (dC, dI)) (ci := 1) (v := .ref a1) (C := RX1) (T := TX1) (N := 7) hx hb hq inX1 hown hK hP 0 rfl rfl 3 (by decide) (hq _ qw_236) (fun _ h9 => h9) rfl dX1_take_33 ?_
  refine lv_iload_n hx hb dX1_take_36 rfl (lv_at hl 0 rfl) ?_
  refine lv_aload_n hx hb dX1_take_37 rfl (lv_at hl 2 rfl) ?_
  refine va_get (D := (dC, dI)) (ci := 1) (v := .ref b1) (C := RX1) (T := TX1) (N := 7) hx hb hq inX1 hown hK hP 1 rfl rfl 3 (by decide) (hq _ qw_236) (fun _ h9 => h9) rfl dX1_take_38 ?_
  refine lv_iload_n hx hb dX1_take_41 rfl (lv_at hl 0 rfl) ?_
  refine va_iald hx hb hK hP 6 4 rfl rfl (inr_ok rfl) dX1_take_42 ?_
  refine lv_topi (fun y_17 ey_17 => ?_)
  refine va_iast hx hb hK hP hD hS 2 0 rfl rfl (inr_ok rfl) dX1_take_43 (fun H locs hP hD hS => ?_)
  generalize upd f_10 (Int32.toNatClampNeg 2) y_17 = f_18 at hP hD
  have hP : va_P (dC, dI) classes [(h0, .inr (1, [.int 0, .int 0, .int 0, .ref a1, .ref a2, .ref a3, .ref a4])), (h1, .inr (1, [.int 0, .int 0, .int 0, .ref b1, .ref b2, .ref b3, .ref b4])), (a1, .inl (ka1, 8, .inl f_18)), (a2, .inl (ka2, 8, .inl f_12)), (a3, .inl (ka3, 8, .inl f_14)), (a4, .inl (ka4, 8, .inl f_16)), (b1, .inl (kb1, 8, .inl gb1)), (b2, .inl (kb2, 8, .inl gb2)), (b3, .inl (kb3, 8, .inl gb3)), (b4, .inl (kb4, 8, .inl gb4))] H := hP
  have hD : va_D A [(h0, .inr (1, [.int 0, .int 0, .int 0, .ref a1, .ref a2, .ref a3, .ref a4])), (h1, .inr (1, [.int 0, .int 0, .int 0, .ref b1, .ref b2, .ref b3, .ref b4])), (a1, .inl (ka1, 8, .inl f_18)), (a2, .inl (ka2, 8, .inl f_12)), (a3, .inl (ka3, 8, .inl f_14)), (a4, .inl (ka4, 8, .inl f_16)), (b1, .inl (kb1, 8, .inl gb1)), (b2, .inl (kb2, 8, .inl gb2)), (b3, .inl (kb3, 8, .inl gb3)), (b4, .inl (kb4, 8, .inl gb4))] := hD
  refine lv_aload_n hx hb dX1_take_44 rfl (lv_at hl 1 rfl) ?_
  refine va_get (D := (dC, dI)) (ci := 1) (v := .ref a2) (C := RX1) (T := TX1) (N := 7) hx hb hq inX1 hown hK hP 0 rfl rfl 4 (by decide) (hq _ qw_239) (fun _ h9 => h9) rfl dX1_take_45 ?_
  refine lv_iload_n hx hb dX1_take_48 rfl (lv_at hl 0 rfl) ?_
  refine lv_aload_n hx hb dX1_take_49 rfl (lv_at hl 2 rfl) ?_
  refine va_get (D := (dC, dI)) (ci := 1) (v := .ref b2) (C := RX1) (T := TX1) (N := 7) hx hb hq inX1 hown hK hP 1 rfl rfl 4 (by decide) (hq _ qw_239) (fun _ h9 => h9) rfl dX1_take_50 ?_
  refine lv_iload_n hx hb dX1_take_53 rfl (lv_at hl 0 rfl) ?_
  refine va_iald hx hb hK hP 7 5 rfl rfl (inr_ok rfl) dX1_take_54 ?_
  refine lv_topi (fun y_19 ey_19 => ?_)
  refine va_iast hx hb hK hP hD hS 3 1 rfl rfl (inr_ok rfl) dX1_take_55 (fun H locs hP hD hS => ?_)
  generalize upd f_12 (Int32.toNatClampNeg 2) y_19 = f_20 at hP hD
  have hP : va_P (dC, dI) classes [(h0, .inr (1, [.int 0, .int 0, .int 0, .ref a1, .ref a2, .ref a3, .ref a4])), (h1, .inr (1, [.int 0, .int 0, .int 0, .ref b1, .ref b2, .ref b3, .ref b4])), (a1, .inl (ka1, 8, .inl f_18)), (a2, .inl (ka2, 8, .inl f_20)), (a3, .inl (ka3, 8, .inl f_14)), (a4, .inl (ka4, 8, .inl f_16)), (b1, .inl (kb1, 8, .inl gb1)), (b2, .inl (kb2, 8, .inl gb2)), (b3, .inl (kb3, 8, .inl gb3)), (b4, .inl (kb4, 8, .inl gb4))] H := hP
  have hD : va_D A [(h0, .inr (1, [.int 0, .int 0, .int 0, .ref a1, .ref a2, .ref a3, .ref a4])), (h1, .inr (1, [.int 0, .int 0, .int 0, .ref b1, .ref b2, .ref b3, .ref b4])), (a1, .inl (ka1, 8, .inl f_18)), (a2, .inl (ka2, 8, .inl f_20)), (a3, .inl (ka3, 8, .inl f_14)), (a4, .inl (ka4, 8, .inl f_16)), (b1, .inl (kb1, 8, .inl gb1)), (b2, .inl (kb2, 8, .inl gb2)), (b3, .inl (kb3, 8, .inl gb3)), (b4, .inl (kb4, 8, .inl gb4))] := hD
  refine lv_aload_n hx hb dX1_take_56 rfl (lv_at hl 1 rfl) ?_
  refine va_get (D := (dC, dI)) (ci := 1) (v := .ref a3) (C := RX1) (T := TX1) (N := 7) hx hb hq inX1 hown hK hP 0 rfl rfl 5 (by decide) (hq _ qw_242) (fun _ h9 => h9) rfl dX1_take_57 ?_
  refine lv_iload_n hx hb dX1_take_60 rfl (lv_at hl 0 rfl) ?_
  refine lv_aload_n hx hb dX1_take_61 rfl (lv_at hl 2 rfl) ?_
  refine va_get (D := (dC, dI)) (ci := 1) (v := .ref b3) (C := RX1) (T := TX1) (N := 7) hx hb hq inX1 hown hK hP 1 rfl rfl 5 (by decide) (hq _ qw_242) (fun _ h9 => h9) rfl dX1_take_62 ?_
  refine lv_iload_n hx hb dX1_take_65 rfl (lv_at hl 0 rfl) ?_
  refine va_iald hx hb hK hP 8 6 rfl rfl (inr_ok rfl) dX1_take_66 ?_
  refine lv_topi (fun y_21 ey_21 => ?_)
  refine va_iast hx hb hK hP hD hS 4 2 rfl rfl (inr_ok rfl) dX1_take_67 (fun H locs hP hD hS => ?_)
  generalize upd f_14 (Int32.toNatClampNeg 2) y_21 = f_22 at hP hD
  have hP : va_P (dC, dI) classes [(h0, .inr (1, [.int 0, .int 0, .int 0, .ref a1, .ref a2, .ref a3, .ref a4])), (h1, .inr (1, [.int 0, .int 0, .int 0, .ref b1, .ref b2, .ref b3, .ref b4])), (a1, .inl (ka1, 8, .inl f_18)), (a2, .inl (ka2, 8, .inl f_20)), (a3, .inl (ka3, 8, .inl f_22)), (a4, .inl (ka4, 8, .inl f_16)), (b1, .inl (kb1, 8, .inl gb1)), (b2, .inl (kb2, 8, .inl gb2)), (b3, .inl (kb3, 8, .inl gb3)), (b4, .inl (kb4, 8, .inl gb4))] H := hP
  have hD : va_D A [(h0, .inr (1, [.int 0, .int 0, .int 0, .ref a1, .ref a2, .ref a3, .ref a4])), (h1, .inr (1, [.int 0, .int 0, .int 0, .ref b1, .ref b2, .ref b3, .ref b4])), (a1, .inl (ka1, 8, .inl f_18)), (a2, .inl (ka2, 8, .inl f_20)), (a3, .inl (ka3, 8, .inl f_22)), (a4, .inl (ka4, 8, .inl f_16)), (b1, .inl (kb1, 8, .inl gb1)), (b2, .inl (kb2, 8, .inl gb2)), (b3, .inl (kb3, 8, .inl gb3)), (b4, .inl (kb4, 8, .inl gb4))] := hD
  refine lv_aload_n hx hb dX1_take_68 rfl (lv_at hl 1 rfl) ?_
  refine va_get (D := (dC, dI)) (ci := 1) (v := .ref a4) (C := RX1) (T := TX1) (N := 7) hx hb hq inX1 hown hK hP 0 rfl rfl 6 (by decide) (hq _ qw_245) (fun _ h9 => h9) rfl dX1_take_69 ?_
  refine lv_iload_n hx hb dX1_take_72 rfl (lv_at hl 0 rfl) ?_
  refine lv_aload_n hx hb dX1_take_73 rfl (lv_at hl 2 rfl) ?_
  refine va_get (D := (dC, dI)) (ci := 1) (v := .ref b4) (C := RX1) (T := TX1) (N := 7) hx hb hq inX1 hown hK hP 1 rfl rfl 6 (by decide) (hq _ qw_245) (fun _ h9 => h9) rfl dX1_take_74 ?_
  refine lv_iload_n hx hb dX1_take_77 rfl (lv_at hl 0 rfl) ?_
  refine va_iald hx hb hK hP 9 7 rfl rfl (inr_ok rfl) dX1_take_78 ?_
  refine lv_topi (fun y_23 ey_23 => ?_)
  refine va_iast hx hb hK hP hD hS 5 3 rfl rfl (inr_ok rfl) dX1_take_79 (fun H locs hP hD hS => ?_)
  generalize upd f_16 (Int32.toNatClampNeg 2) y_23 = f_24 at hP hD
  have hP : va_P (dC, dI) classes [(h0, .inr (1, [.int 0, .int 0, .int 0, .ref a1, .ref a2, .ref a3, .ref a4])), (h1, .inr (1, [.int 0, .int 0, .int 0, .ref b1, .ref b2, .ref b3, .ref b4])), (a1, .inl (ka1, 8, .inl f_18)), (a2, .inl (ka2, 8, .inl f_20)), (a3, .inl (ka3, 8, .inl f_22)), (a4, .inl (ka4, 8, .inl f_24)), (b1, .inl (kb1, 8, .inl gb1)), (b2, .inl (kb2, 8, .inl gb2)), (b3, .inl (kb3, 8, .inl gb3)), (b4, .inl (kb4, 8, .inl gb4))] H := hP
  have hD : va_D A [(h0, .inr (1, [.int 0, .int 0, .int 0, .ref a1, .ref a2, .ref a3, .ref a4])), (h1, .inr (1, [.int 0, .int 0, .int 0, .ref b1, .ref b2, .ref b3, .ref b4])), (a1, .inl (ka1, 8, .inl f_18)), (a2, .inl (ka2, 8, .inl f_20)), (a3, .inl (ka3, 8, .inl f_22)), (a4, .inl (ka4, 8, .inl f_24)), (b1, .inl (kb1, 8, .inl gb1)), (b2, .inl (kb2, 8, .inl gb2)), (b3, .inl (kb3, 8, .inl gb3)), (b4, .inl (kb4, 8, .inl gb4))] := hD
  refine lv_iinc (v := 3) (lv' := [(2, .int 3), (0, .ref h0), (1, .ref h1)]) hx hb dX1_take_80 hl (k := 0) rfl (by decide) (by decide) rfl (fun ls hl => ?_)
  refine lv_goto (tgt := 26) hx hb dX1_take_83 (by decide) ?_
  refine lv_iload_n hx hb dX1_take_26 rfl (lv_at hl 0 rfl) ?_
  refine lv_bipush (v := 8) hx hb dX1_take_27 (by decide) ?_
  refine lv_icmp_ge (tgt := 86) hx hb dX1_take_29 (by decide) (fun c9 => absurd c9 (by decide)) (fun _ => ?_)
  refine lv_aload_n hx hb dX1_take_32 rfl (lv_at hl 1 rfl) ?_
  refine va_get (D := (dC, dI)) (ci := 1) (v := .ref a1) (C := RX1) (T := TX1) (N := 7) hx hb hq inX1 hown hK hP 0 rfl rfl 3 (by decide) (hq _ qw_236) (fun _ h9 => h9) rfl dX1_take_33 ?_
  refine lv_iload_n hx hb dX1_take_36 rfl (lv_at hl 0 rfl) ?_
  refine lv_aload_n hx hb dX1_take_37 rfl (lv_at hl 2 rfl) ?_
  refine va_get (D := (dC, dI)) (ci := 1) (v := .ref b1) (C := RX1) (T := TX1) (N := 7) hx hb hq inX1 hown hK hP 1 rfl rfl 3 (by decide) (hq _ qw_236) (fun _ h9 => h9) rfl dX1_take_38 ?_
  refine lv_iload_n hx hb dX1_take_41 rfl (lv_at hl 0 rfl) ?_
  refine va_iald hx hb hK hP 6 4 rfl rfl (inr_ok rfl) dX1_take_42 ?_
  refine lv_topi (fun y_25 ey_25 => ?_)
  refine va_iast hx hb hK hP hD hS 2 0 rfl rfl (inr_ok rfl) dX1_take_43 (fun H locs hP hD hS => ?_)
  generalize upd f_18 (Int32.toNatClampNeg 3) y_25 = f_26 at hP hD
  have hP : va_P (dC, dI) classes [(h0, .inr (1, [.int 0, .int 0, .int 0, .ref a1, .ref a2, .ref a3, .ref a4])), (h1, .inr (1, [.int 0, .int 0, .int 0, .ref b1, .ref b2, .ref b3, .ref b4])), (a1, .inl (ka1, 8, .inl f_26)), (a2, .inl (ka2, 8, .inl f_20)), (a3, .inl (ka3, 8, .inl f_22)), (a4, .inl (ka4, 8, .inl f_24)), (b1, .inl (kb1, 8, .inl gb1)), (b2, .inl (kb2, 8, .inl gb2)), (b3, .inl (kb3, 8, .inl gb3)), (b4, .inl (kb4, 8, .inl gb4))] H := hP
  have hD : va_D A [(h0, .inr (1, [.int 0, .int 0, .int 0, .ref a1, .ref a2, .ref a3, .ref a4])), (h1, .inr (1, [.int 0, .int 0, .int 0, .ref b1, .ref b2, .ref b3, .ref b4])), (a1, .inl (ka1, 8, .inl f_26)), (a2, .inl (ka2, 8, .inl f_20)), (a3, .inl (ka3, 8, .inl f_22)), (a4, .inl (ka4, 8, .inl f_24)), (b1, .inl (kb1, 8, .inl gb1)), (b2, .inl (kb2, 8, .inl gb2)), (b3, .inl (kb3, 8, .inl gb3)), (b4, .inl (kb4, 8, .inl gb4))] := hD
  refine lv_aload_n hx hb dX1_take_44 rfl (lv_at hl 1 rfl) ?_
  refine va_get (D := (dC, dI)) (ci := 1) (v := .ref a2) (C := RX1) (T := TX1) (N := 7) hx hb hq inX1 hown hK hP 0 rfl rfl 4 (by decide) (hq _ qw_239) (fun _ h9 => h9) rfl dX1_take_45 ?_
  refine lv_iload_n hx hb dX1_take_48 rfl (lv_at hl 0 rfl) ?_
  refine lv_aload_n hx hb dX1_take_49 rfl (lv_at hl 2 rfl) ?_
  refine va_get (D := (dC, dI)) (ci := 1) (v := .ref b2) (C := RX1) (T := TX1) (N := 7) hx hb hq inX1 hown hK hP 1 rfl rfl 4 (by decide) (hq _ qw_239) (fun _ h9 => h9) rfl dX1_take_50 ?_
  refine lv_iload_n hx hb dX1_take_53 rfl (lv_at hl 0 rfl) ?_
  refine va_iald hx hb hK hP 7 5 rfl rfl (inr_ok rfl) dX1_take_54 ?_
  refine lv_topi (fun y_27 ey_27 => ?_)
  refine va_iast hx hb hK hP hD hS 3 1 rfl rfl (inr_ok rfl) dX1_take_55 (fun H locs hP hD hS => ?_)
  generalize upd f_20 (Int32.toNatClampNeg 3) y_27 = f_28 at hP hD
  have hP : va_P (dC, dI) classes [(h0, .inr (1, [.int 0, .int 0, .int 0, .ref a1, .ref a2, .ref a3, .ref a4])), (h1, .inr (1, [.int 0, .int 0, .int 0, .ref b1, .ref b2, .ref b3, .ref b4])), (a1, .inl (ka1, 8, .inl f_26)), (a2, .inl (ka2, 8, .inl f_28)), (a3, .inl (ka3, 8, .inl f_22)), (a4, .inl (ka4, 8, .inl f_24)), (b1, .inl (kb1, 8, .inl gb1)), (b2, .inl (kb2, 8, .inl gb2)), (b3, .inl (kb3, 8, .inl gb3)), (b4, .inl (kb4, 8, .inl gb4))] H := hP
  have hD : va_D A [(h0, .inr (1, [.int 0, .int 0, .int 0, .ref a1, .ref a2, .ref a3, .ref a4])), (h1, .inr (1, [.int 0, .int 0, .int 0, .ref b1, .ref b2, .ref b3, .ref b4])), (a1, .inl (ka1, 8, .inl f_26)), (a2, .inl (ka2, 8, .inl f_28)), (a3, .inl (ka3, 8, .inl f_22)), (a4, .inl (ka4, 8, .inl f_24)), (b1, .inl (kb1, 8, .inl gb1)), (b2, .inl (kb2, 8, .inl gb2)), (b3, .inl (kb3, 8, .inl gb3)), (b4, .inl (kb4, 8, .inl gb4))] := hD
  refine lv_aload_n hx hb dX1_take_56 rfl (lv_at hl 1 rfl) ?_
  refine va_get (D := (dC, dI)) (ci := 1) (v := .ref a3) (C := RX1) (T := TX1) (N := 7) hx hb hq inX1 hown hK hP 0 rfl rfl 5 (by decide) (hq _ qw_242) (fun _ h9 => h9) rfl dX1_take_57 ?_
  refine lv_iload_n hx hb dX1_take_60 rfl (lv_at hl 0 rfl) ?_
  refine lv_aload_n hx hb dX1_take_61 rfl (lv_at hl 2 rfl) ?_
  refine va_get (D := (dC, dI)) (ci := 1) (v := .ref b3) (C := RX1) (T := TX1) (N := 7) hx hb hq inX1 hown hK hP 1 rfl rfl 5 (by decide) (hq _ qw_242) (fun _ h9 => h9) rfl dX1_take_62 ?_
  refine lv_iload_n hx hb dX1_take_65 rfl (lv_at hl 0 rfl) ?_
  refine va_iald hx hb hK hP 8 6 rfl rfl (inr_ok rfl) dX1_take_66 ?_
  refine lv_topi (fun y_29 ey_29 => ?_)
  refine va_iast hx hb hK hP hD hS 4 2 rfl rfl (inr_ok rfl) dX1_take_67 (fun H locs hP hD hS => ?_)
  generalize upd f_22 (Int32.toNatClampNeg 3) y_29 = f_30 at hP hD
  have hP : va_P (dC, dI) classes [(h0, .inr (1, [.int 0, .int 0, .int 0, .ref a1, .ref a2, .ref a3, .ref a4])), (h1, .inr (1, [.int 0, .int 0, .int 0, .ref b1, .ref b2, .ref b3, .ref b4])), (a1, .inl (ka1, 8, .inl f_26)), (a2, .inl (ka2, 8, .inl f_28)), (a3, .inl (ka3, 8, .inl f_30)), (a4, .inl (ka4, 8, .inl f_24)), (b1, .inl (kb1, 8, .inl gb1)), (b2, .inl (kb2, 8, .inl gb2)), (b3, .inl (kb3, 8, .inl gb3)), (b4, .inl (kb4, 8, .inl gb4))] H := hP
  have hD : va_D A [(h0, .inr (1, [.int 0, .int 0, .int 0, .ref a1, .ref a2, .ref a3, .ref a4])), (h1, .inr (1, [.int 0, .int 0, .int 0, .ref b1, .ref b2, .ref b3, .ref b4])), (a1, .inl (ka1, 8, .inl f_26)), (a2, .inl (ka2, 8, .inl f_28)), (a3, .inl (ka3, 8, .inl f_30)), (a4, .inl (ka4, 8, .inl f_24)), (b1, .inl (kb1, 8, .inl gb1)), (b2, .inl (kb2, 8, .inl gb2)), (b3, .inl (kb3, 8, .inl gb3)), (b4, .inl (kb4, 8, .inl gb4))] := hD
  refine lv_aload_n hx hb dX1_take_68 rfl (lv_at hl 1 rfl) ?_
  refine va_get (D := (dC, dI)) (ci := 1) (v := .ref a4) (C := RX1) (T := TX1) (N := 7) hx hb hq inX1 hown hK hP 0 rfl rfl 6 (by decide) (hq _ qw_245) (fun _ h9 => h9) rfl dX1_take_69 ?_
  refine lv_iload_n hx hb dX1_take_72 rfl (lv_at hl 0 rfl) ?_
  refine lv_aload_n hx hb dX1_take_73 rfl (lv_at hl 2 rfl) ?_
  refine va_get (D := (dC, dI)) (ci := 1) (v := .ref b4) (C := RX1) (T := TX1) (N := 7) hx hb hq inX1 hown hK hP 1 rfl rfl 6 (by decide) (hq _ qw_245) (fun _ h9 => h9) rfl dX1_take_74 ?_
  refine lv_iload_n hx hb dX1_take_77 rfl (lv_at hl 0 rfl) ?_
  refine va_iald hx hb hK hP 9 7 rfl rfl (inr_ok rfl) dX1_take_78 ?_
  refine lv_topi (fun y_31 ey_31 => ?_)
  refine va_iast hx hb hK hP hD hS 5 3 rfl rfl (inr_ok rfl) dX1_take_79 (fun H locs hP hD hS => ?_)
  generalize upd f_24 (Int32.toNatClampNeg 3) y_31 = f_32 at hP hD
  have hP : va_P (dC, dI) classes [(h0, .inr (1, [.int 0, .int 0, .int 0, .ref a1, .ref a2, .ref a3, .ref a4])), (h1, .inr (1, [.int 0, .int 0, .int 0, .ref b1, .ref b2, .ref b3, .ref b4])), (a1, .inl (ka1, 8, .inl f_26)), (a2, .inl (ka2, 8, .inl f_28)), (a3, .inl (ka3, 8, .inl f_30)), (a4, .inl (ka4, 8, .inl f_32)), (b1, .inl (kb1, 8, .inl gb1)), (b2, .inl (kb2, 8, .inl gb2)), (b3, .inl (kb3, 8, .inl gb3)), (b4, .inl (kb4, 8, .inl gb4))] H := hP
  have hD : va_D A [(h0, .inr (1, [.int 0, .int 0, .int 0, .ref a1, .ref a2, .ref a3, .ref a4])), (h1, .inr (1, [.int 0, .int 0, .int 0, .ref b1, .ref b2, .ref b3, .ref b4])), (a1, .inl (ka1, 8, .inl f_26)), (a2, .inl (ka2, 8, .inl f_28)), (a3, .inl (ka3, 8, .inl f_30)), (a4, .inl (ka4, 8, .inl f_32)), (b1, .inl (kb1, 8, .inl gb1)), (b2, .inl (kb2, 8, .inl gb2)), (b3, .inl (kb3, 8, .inl gb3)), (b4, .inl (kb4, 8, .inl gb4))] := hD
  refine lv_iinc (v := 4) (lv' := [(2, .int 4), (0, .ref h0), (1, .ref h1)]) hx hb dX1_take_80 hl (k := 0) rfl (by decide) (by decide) rfl (fun ls hl => ?_)
  refine lv_goto (tgt := 26) hx hb dX1_take_83 (by decide) ?_
  refine lv_iload_n hx hb dX1_take_26 rfl (lv_at hl 0 rfl) ?_
  refine lv_bipush (v := 8) hx hb dX1_take_27 (by decide) ?_
  refine lv_icmp_ge (tgt := 86) hx hb dX1_take_29 (by decide) (fun c9 => absurd c9 (by decide)) (fun _ => ?_)
  refine lv_aload_n hx hb dX1_take_32 rfl (lv_at hl 1 rfl) ?_
  refine va_get (D := (dC, dI)) (ci := 1) (v := .ref a1) (C := RX1) (T := TX1) (N := 7) hx hb hq inX1 hown hK hP 0 rfl rfl 3 (by decide) (hq _ qw_236) (fun _ h9 => h9) rfl dX1_take_33 ?_
  refine lv_iload_n hx hb dX1_take_36 rfl (lv_at hl 0 rfl) ?_
  refine lv_aload_n hx hb dX1_take_37 rfl (lv_at hl 2 rfl) ?_
  refine va_get (D := (dC, dI)) (ci := 1) (v := .ref b1) (C := RX1) (T := TX1) (N := 7) hx hb hq inX1 hown hK hP 1 rfl rfl 3 (by decide) (hq _ qw_236) (fun _ h9 => h9) rfl dX1_take_38 ?_
  refine lv_iload_n hx hb dX1_take_41 rfl (lv_at hl 0 rfl) ?_
  refine va_iald hx hb hK hP 6 4 rfl rfl (inr_ok rfl) dX1_take_42 ?_
  refine lv_topi (fun y_33 ey_33 => ?_)
  refine va_iast hx hb hK hP hD hS 2 0 rfl rfl (inr_ok rfl) dX1_take_43 (fun H locs hP hD hS => ?_)
  generalize upd f_26 (Int32.toNatClampNeg 4) y_33 = f_34 at hP hD
  have hP : va_P (dC, dI) classes [(h0, .inr (1, [.int 0, .int 0, .int 0, .ref a1, .ref a2, .ref a3, .ref a4])), (h1, .inr (1, [.int 0, .int 0, .int 0, .ref b1, .ref b2, .ref b3, .ref b4])), (a1, .inl (ka1, 8, .inl f_34)), (a2, .inl (ka2, 8, .inl f_28)), (a3, .inl (ka3, 8, .inl f_30)), (a4, .inl (ka4, 8, .inl f_32)), (b1, .inl (kb1, 8, .inl gb1)), (b2, .inl (kb2, 8, .inl gb2)), (b3, .inl (kb3, 8, .inl gb3)), (b4, .inl (kb4, 8, .inl gb4))] H := hP
  have hD : va_D A [(h0, .inr (1, [.int 0, .int 0, .int 0, .ref a1, .ref a2, .ref a3, .ref a4])), (h1, .inr (1, [.int 0, .int 0, .int 0, .ref b1, .ref b2, .ref b3, .ref b4])), (a1, .inl (ka1, 8, .inl f_34)), (a2, .inl (ka2, 8, .inl f_28)), (a3, .inl (ka3, 8, .inl f_30)), (a4, .inl (ka4, 8, .inl f_32)), (b1, .inl (kb1, 8, .inl gb1)), (b2, .inl (kb2, 8, .inl gb2)), (b3, .inl (kb3, 8, .inl gb3)), (b4, .inl (kb4, 8, .inl gb4))] := hD
  refine lv_aload_n hx hb dX1_take_44 rfl (lv_at hl 1 rfl) ?_
  refine va_get (D := (dC, dI)) (ci := 1) (v := .ref a2) (C := RX1) (T := TX1) (N := 7) hx hb hq inX1 hown hK hP 0 rfl rfl 4 (by decide) (hq _ qw_239) (fun _ h9 => h9) rfl dX1_take_45 ?_
  refine lv_iload_n hx hb dX1_take_48 rfl (lv_at hl 0 rfl) ?_
  refine lv_aload_n hx hb dX1_take_49 rfl (lv_at hl 2 rfl) ?_
  refine va_get (D := (dC, dI)) (ci := 1) (v := .ref b2) (C := RX1) (T := TX1) (N := 7) hx hb hq inX1 hown hK hP 1 rfl rfl 4 (by decide) (hq _ qw_239) (fun _ h9 => h9) rfl dX1_take_50 ?_
  refine lv_iload_n hx hb dX1_take_53 rfl (lv_at hl 0 rfl) ?_
  refine va_iald hx hb hK hP 7 5 rfl rfl (inr_ok rfl) dX1_take_54 ?_
  refine lv_topi (fun y_35 ey_35 => ?_)
  refine va_iast hx hb hK hP hD hS 3 1 rfl rfl (inr_ok rfl) dX1_take_55 (fun H locs hP hD hS => ?_)
  generalize upd f_28 (Int32.toNatClampNeg 4) y_35 = f_36 at hP hD
  have hP : va_P (dC, dI) classes [(h0, .inr (1, [.int 0, .int 0, .int 0, .ref a1, .ref a2, .ref a3, .ref a4])), (h1, .inr (1, [.int 0, .int 0, .int 0, .ref b1, .ref b2, .ref b3, .ref b4])), (a1, .inl (ka1, 8, .inl f_34)), (a2, .inl (ka2, 8, .inl f_36)), (a3, .inl (ka3, 8, .inl f_30)), (a4, .inl (ka4, 8, .inl f_32)), (b1, .inl (kb1, 8, .inl gb1)), (b2, .inl (kb2, 8, .inl gb2)), (b3, .inl (kb3, 8, .inl gb3)), (b4, .inl (kb4, 8, .inl gb4))] H := hP
  have hD : va_D A [(h0, .inr (1, [.int 0, .int 0, .int 0, .ref a1, .ref a2, .ref a3, .ref a4])), (h1, .inr (1, [.int 0, .int 0, .int 0, .ref b1, .ref b2, .ref b3, .ref b4])), (a1, .inl (ka1, 8, .inl f_34)), (a2, .inl (ka2, 8, .inl f_36)), (a3, .inl (ka3, 8, .inl f_30)), (a4, .inl (ka4, 8, .inl f_32)), (b1, .inl (kb1, 8, .inl gb1)), (b2, .inl (kb2, 8, .inl gb2)), (b3, .inl (kb3, 8, .inl gb3)), (b4, .inl (kb4, 8, .inl gb4))] := hD
  refine lv_aload_n hx hb dX1_take_56 rfl (lv_at hl 1 rfl) ?_
  refine va_get (D := (dC, dI)) (ci := 1) (v := .ref a3) (C := RX1) (T := TX1) (N := 7) hx hb hq inX1 hown hK hP 0 rfl rfl 5 (by decide) (hq _ qw_242) (fun _ h9 => h9) rfl dX1_take_57 ?_
  refine lv_iload_n hx hb dX1_take_60 rfl (lv_at hl 0 rfl) ?_
  refine lv_aload_n hx hb dX1_take_61 rfl (lv_at hl 2 rfl) ?_
  refine va_get (D := (dC, dI)) (ci := 1) (v := .ref b3) (C := RX1) (T := TX1) (N := 7) hx hb hq inX1 hown hK hP 1 rfl rfl 5 (by decide) (hq _ qw_242) (fun _ h9 => h9) rfl dX1_take_62 ?_
  refine lv_iload_n hx hb dX1_take_65 rfl (lv_at hl 0 rfl) ?_
  refine va_iald hx hb hK hP 8 6 rfl rfl (inr_ok rfl) dX1_take_66 ?_
  refine lv_topi (fun y_37 ey_37 => ?_)
  refine va_iast hx hb hK hP hD hS 4 2 rfl rfl (inr_ok rfl) dX1_take_67 (fun H locs hP hD hS => ?_)
  generalize upd f_30 (Int32.toNatClampNeg 4) y_37 = f_38 at hP hD
  have hP : va_P (dC, dI) classes [(h0, .inr (1, [.int 0, .int 0, .int 0, .ref a1, .ref a2, .ref a3, .ref a4])), (h1, .inr (1, [.int 0, .int 0, .int 0, .ref b1, .ref b2, .ref b3, .ref b4])), (a1, .inl (ka1, 8, .inl f_34)), (a2, .inl (ka2, 8, .inl f_36)), (a3, .inl (ka3, 8, .inl f_38)), (a4, .inl (ka4, 8, .inl f_32)), (b1, .inl (kb1, 8, .inl gb1)), (b2, .inl (kb2, 8, .inl gb2)), (b3, .inl (kb3, 8, .inl gb3)), (b4, .inl (kb4, 8, .inl gb4))] H := hP
  have hD : va_D A [(h0, .inr (1, [.int 0, .int 0, .int 0, .ref a1, .ref a2, .ref a3, .ref a4])), (h1, .inr (1, [.int 0, .int 0, .int 0, .ref b1, .ref b2, .ref b3, .ref b4])), (a1, .inl (ka1, 8, .inl f_34)), (a2, .inl (ka2, 8, .inl f_36)), (a3, .inl (ka3, 8, .inl f_38)), (a4, .inl (ka4, 8, .inl f_32)), (b1, .inl (kb1, 8, .inl gb1)), (b2, .inl (kb2, 8, .inl gb2)), (b3, .inl (kb3, 8, .inl gb3)), (b4, .inl (kb4, 8, .inl gb4))] := hD
  refine lv_aload_n hx hb dX1_take_68 rfl (lv_at hl 1 rfl) ?_
  refine va_get (D := (dC, dI)) (ci := 1) (v := .ref a4) (C := RX1) (T := TX1) (N := 7) hx hb hq inX1 hown hK hP 0 rfl rfl 6 (by decide) (hq _ qw_245) (fun _ h9 => h9) rfl dX1_take_69 ?_
  refine lv_iload_n hx hb dX1_take_72 rfl (lv_at hl 0 rfl) ?_
  refine lv_aload_n hx hb dX1_take_73 rfl (lv_at hl 2 rfl) ?_
  refine va_get (D := (dC, dI)) (ci := 1) (v := .ref b4) (C := RX1) (T := TX1) (N := 7) hx hb hq inX1 hown hK hP 1 rfl rfl 6 (by decide) (hq _ qw_245) (fun _ h9 => h9) rfl dX1_take_74 ?_
  refine lv_iload_n hx hb dX1_take_77 rfl (lv_at hl 0 rfl) ?_
  refine va_iald hx hb hK hP 9 7 rfl rfl (inr_ok rfl) dX1_take_78 ?_
  refine lv_topi (fun y_39 ey_39 => ?_)
  refine va_iast hx hb hK hP hD hS 5 3 rfl rfl (inr_ok rfl) dX1_take_79 (fun H locs hP hD hS => ?_)
  generalize upd f_32 (Int32.toNatClampNeg 4) y_39 = f_40 at hP hD
  have hP : va_P (dC, dI) classes [(h0, .inr (1, [.int 0, .int 0, .int 0, .ref a1, .ref a2, .ref a3, .ref a4])), (h1, .inr (1, [.int 0, .int 0, .int 0, .ref b1, .ref b2, .ref b3, .ref b4])), (a1, .inl (ka1, 8, .inl f_34)), (a2, .inl (ka2, 8, .inl f_36)), (a3, .inl (ka3, 8, .inl f_38)), (a4, .inl (ka4, 8, .inl f_40)), (b1, .inl (kb1, 8, .inl gb1)), (b2, .inl (kb2, 8, .inl gb2)), (b3, .inl (kb3, 8, .inl gb3)), (b4, .inl (kb4, 8, .inl gb4))] H := hP
  have hD : va_D A [(h0, .inr (1, [.int 0, .int 0, .int 0, .ref a1, .ref a2, .ref a3, .ref a4])), (h1, .inr (1, [.int 0, .int 0, .int 0, .ref b1, .ref b2, .ref b3, .ref b4])), (a1, .inl (ka1, 8, .inl f_34)), (a2, .inl (ka2, 8, .inl f_36)), (a3, .inl (ka3, 8, .inl f_38)), (a4, .inl (ka4, 8, .inl f_40)), (b1, .inl (kb1, 8, .inl gb1)), (b2, .inl (kb2, 8, .inl gb2)), (b3, .inl (kb3, 8, .inl gb3)), (b4, .inl (kb4, 8, .inl gb4))] := hD
  refine lv_iinc (v := 5) (lv' := [(2, .int 5), (0, .ref h0), (1, .ref h1)]) hx hb dX1_take_80 hl (k := 0) rfl (by decide) (by decide) rfl (fun ls hl => ?_)
  refine lv_goto (tgt := 26) hx hb dX1_take_83 (by decide) ?_
  refine lv_iload_n hx hb dX1_take_26 rfl (lv_at hl 0 rfl) ?_
  refine lv_bipush (v := 8) hx hb dX1_take_27 (by decide) ?_
  refine lv_icmp_ge (tgt := 86) hx hb dX1_take_29 (by decide) (fun c9 => absurd c9 (by decide)) (fun _ => ?_)
  refine lv_aload_n hx hb dX1_take_32 rfl (lv_at hl 1 rfl) ?_
  refine va_get (D := (dC, dI)) (ci := 1) (v := .ref a1) (C := RX1) (T := TX1) (N := 7) hx hb hq inX1 hown hK hP 0 rfl rfl 3 (by decide) (hq _ qw_236) (fun _ h9 => h9) rfl dX1_take_33 ?_
  refine lv_iload_n hx hb dX1_take_36 rfl (lv_at hl 0 rfl) ?_
  refine lv_aload_n hx hb dX1_take_37 rfl (lv_at hl 2 rfl) ?_
  refine va_get (D := (dC, dI)) (ci := 1) (v := .ref b1) (C := RX1) (T := TX1) (N := 7) hx hb hq inX1 hown hK hP 1 rfl rfl 3 (by decide) (hq _ qw_236) (fun _ h9 => h9) rfl dX1_take_38 ?_
  refine lv_iload_n hx hb dX1_take_41 rfl (lv_at hl 0 rfl) ?_
  refine va_iald hx hb hK hP 6 4 rfl rfl (inr_ok rfl) dX1_take_42 ?_
  refine lv_topi (fun y_41 ey_41 => ?_)
  refine va_iast hx hb hK hP hD hS 2 0 rfl rfl (inr_ok rfl) dX1_take_43 (fun H locs hP hD hS => ?_)
  generalize upd f_34 (Int32.toNatClampNeg 5) y_41 = f_42 at hP hD
  have hP : va_P (dC, dI) classes [(h0, .inr (1, [.int 0, .int 0, .int 0, .ref a1, .ref a2, .ref a3, .ref a4])), (h1, .inr (1, [.int 0, .int 0, .int 0, .ref b1, .ref b2, .ref b3, .ref b4])), (a1, .inl (ka1, 8, .inl f_42)), (a2, .inl (ka2, 8, .inl f_36)), (a3, .inl (ka3, 8, .inl f_38)), (a4, .inl (ka4, 8, .inl f_40)), (b1, .inl (kb1, 8, .inl gb1)), (b2, .inl (kb2, 8, .inl gb2)), (b3, .inl (kb3, 8, .inl gb3)), (b4, .inl (kb4, 8, .inl gb4))] H := hP
  have hD : va_D A [(h0, .inr (1, [.int 0, .int 0, .int 0, .ref a1, .ref a2, .ref a3, .ref a4])), (h1, .inr (1, [.int 0, .int 0, .int 0, .ref b1, .ref b2, .ref b3, .ref b4])), (a1, .inl (ka1, 8, .inl f_42)), (a2, .inl (ka2, 8, .inl f_36)), (a3, .inl (ka3, 8, .inl f_38)), (a4, .inl (ka4, 8, .inl f_40)), (b1, .inl (kb1, 8, .inl gb1)), (b2, .inl (kb2, 8, .inl gb2)), (b3, .inl (kb3, 8, .inl gb3)), (b4, .inl (kb4, 8, .inl gb4))] := hD
  refine lv_aload_n hx hb dX1_take_44 rfl (lv_at hl 1 rfl) ?_
  refine va_get (D := (dC, dI)) (ci := 1) (v := .ref a2) (C := RX1) (T := TX1) (N := 7) hx hb hq inX1 hown hK hP 0 rfl rfl 4 (by decide) (hq _ qw_239) (fun _ h9 => h9) rfl dX1_take_45 ?_
  refine lv_iload_n hx hb dX1_take_48 rfl (lv_at hl 0 rfl) ?_
  refine lv_aload_n hx hb dX1_take_49 rfl (lv_at hl 2 rfl) ?_
  refine va_get (D := (dC, dI)) (ci := 1) (v := .ref b2) (C := RX1) (T := TX1) (N := 7) hx hb hq inX1 hown hK hP 1 rfl rfl 4 (by decide) (hq _ qw_239) (fun _ h9 => h9) rfl dX1_take_50 ?_
  refine lv_iload_n hx hb dX1_take_53 rfl (lv_at hl 0 rfl) ?_
  refine va_iald hx hb hK hP 7 5 rfl rfl (inr_ok rfl) dX1_take_54 ?_
  refine lv_topi (fun y_43 ey_43 => ?_)
  refine va_iast hx hb hK hP hD hS 3 1 rfl rfl (inr_ok rfl) dX1_take_55 (fun H locs hP hD hS => ?_)
  generalize upd f_36 (Int32.toNatClampNeg 5) y_43 = f_44 at hP hD
  have hP : va_P (dC, dI) classes [(h0, .inr (1, [.int 0, .int 0, .int 0, .ref a1, .ref a2, .ref a3, .ref a4])), (h1, .inr (1, [.int 0, .int 0, .int 0, .ref b1, .ref b2, .ref b3, .ref b4])), (a1, .inl (ka1, 8, .inl f_42)), (a2, .inl (ka2, 8, .inl f_44)), (a3, .inl (ka3, 8, .inl f_38)), (a4, .inl (ka4, 8, .inl f_40)), (b1, .inl (kb1, 8, .inl gb1)), (b2, .inl (kb2, 8, .inl gb2)), (b3, .inl (kb3, 8, .inl gb3)), (b4, .inl (kb4, 8, .inl gb4))] H := hP
  have hD : va_D A [(h0, .inr (1, [.int 0, .int 0, .int 0, .ref a1, .ref a2, .ref a3, .ref a4])), (h1, .inr (1, [.int 0, .int 0, .int 0, .ref b1, .ref b2, .ref b3, .ref b4])), (a1, .inl (ka1, 8, .inl f_42)), (a2, .inl (ka2, 8, .inl f_44)), (a3, .inl (ka3, 8, .inl f_38)), (a4, .inl (ka4, 8, .inl f_40)), (b1, .inl (kb1, 8, .inl gb1)), (b2, .inl (kb2, 8, .inl gb2)), (b3, .inl (kb3, 8, .inl gb3)), (b4, .inl (kb4, 8, .inl gb4))] := hD
  refine lv_aload_n hx hb dX1_take_56 rfl (lv_at hl 1 rfl) ?_
  refine va_get (D := (dC, dI)) (ci := 1) (v := .ref a3) (C := RX1) (T := TX1) (N := 7) hx hb hq inX1 hown hK hP 0 rfl rfl 5 (by decide) (hq _ qw_242) (fun _ h9 => h9) rfl dX1_take_57 ?_
  refine lv_iload_n hx hb dX1_take_60 rfl (lv_at hl 0 rfl) ?_
  refine lv_aload_n hx hb dX1_take_61 rfl (lv_at hl 2 rfl) ?_
  refine va_get (D := (dC, dI)) (ci := 1) (v := .ref b3) (C := RX1) (T := TX1) (N := 7) hx hb hq inX1 hown hK hP 1 rfl rfl 5 (by decide) (hq _ qw_242) (fun _ h9 => h9) rfl dX1_take_62 ?_
  refine lv_iload_n hx hb dX1_take_65 rfl (lv_at hl 0 rfl) ?_
  refine va_iald hx hb hK hP 8 6 rfl rfl (inr_ok rfl) dX1_take_66 ?_
  refine lv_topi (fun y_45 ey_45 => ?_)
  refine va_iast hx hb hK hP hD hS 4 2 rfl rfl (inr_ok rfl) dX1_take_67 (fun H locs hP hD hS => ?_)
  generalize upd f_38 (Int32.toNatClampNeg 5) y_45 = f_46 at hP hD
  have hP : va_P (dC, dI) classes [(h0, .inr (1, [.int 0, .int 0, .int 0, .ref a1, .ref a2, .ref a3, .ref a4])), (h1, .inr (1, [.int 0, .int 0, .int 0, .ref b1, .ref b2, .ref b3, .ref b4])), (a1, .inl (ka1, 8, .inl f_42)), (a2, .inl (ka2, 8, .inl f_44)), (a3, .inl (ka3, 8, .inl f_46)), (a4, .inl (ka4, 8, .inl f_40)), (b1, .inl (kb1, 8, .inl gb1)), (b2, .inl (kb2, 8, .inl gb2)), (b3, .inl (kb3, 8, .inl gb3)), (b4, .inl (kb4, 8, .inl gb4))] H := hP
  have hD : va_D A [(h0, .inr (1, [.int 0, .int 0, .int 0, .ref a1, .ref a2, .ref a3, .ref a4])), (h1, .inr (1, [.int 0, .int 0, .int 0, .ref b1, .ref b2, .ref b3, .ref b4])), (a1, .inl (ka1, 8, .inl f_42)), (a2, .inl (ka2, 8, .inl f_44)), (a3, .inl (ka3, 8, .inl f_46)), (a4, .inl (ka4, 8, .inl f_40)), (b1, .inl (kb1, 8, .inl gb1)), (b2, .inl (kb2, 8, .inl gb2)), (b3, .inl (kb3, 8, .inl gb3)), (b4, .inl (kb4, 8, .inl gb4))] := hD
  refine lv_aload_n hx hb dX1_take_68 rfl (lv_at hl 1 rfl) ?_
  refine va_get (D := (dC, dI)) (ci := 1) (v := .ref a4) (C := RX1) (T := TX1) (N := 7) hx hb hq inX1 hown hK hP 0 rfl rfl 6 (by decide) (hq _ qw_245) (fun _ h9 => h9) rfl dX1_take_69 ?_
  refine lv_iload_n hx hb dX1_take_72 rfl (lv_at hl 0 rfl) ?_
  refine lv_aload_n hx hb dX1_take_73 rfl (lv_at hl 2 rfl) ?_
  refine va_get (D := (dC, dI)) (ci := 1) (v := .ref b4) (C := RX1) (T := TX1) (N := 7) hx hb hq inX1 hown hK hP 1 rfl rfl 6 (by decide) (hq _ qw_245) (fun _ h9 => h9) rfl dX1_take_74 ?_
  refine lv_iload_n hx hb dX1_take_77 rfl (lv_at hl 0 rfl) ?_
  refine va_iald hx hb hK hP 9 7 rfl rfl (inr_ok rfl) dX1_take_78 ?_
  refine lv_topi (fun y_47 ey_47 => ?_)
  refine va_iast hx hb hK hP hD hS 5 3 rfl rfl (inr_ok rfl) dX1_take_79 (fun H locs hP hD hS => ?_)
  generalize upd f_40 (Int32.toNatClampNeg 5) y_47 = f_48 at hP hD
  have hP : va_P (dC, dI) classes [(h0, .inr (1, [.int 0, .int 0, .int 0, .ref a1, .ref a2, .ref a3, .ref a4])), (h1, .inr (1, [.int 0, .int 0, .int 0, .ref b1, .ref b2, .ref b3, .ref b4])), (a1, .inl (ka1, 8, .inl f_42)), (a2, .inl (ka2, 8, .inl f_44)), (a3, .inl (ka3, 8, .inl f_46)), (a4, .inl (ka4, 8, .inl f_48)), (b1, .inl (kb1, 8, .inl gb1)), (b2, .inl (kb2, 8, .inl gb2)), (b3, .inl (kb3, 8, .inl gb3)), (b4, .inl (kb4, 8, .inl gb4))] H := hP
  have hD : va_D A [(h0, .inr (1, [.int 0, .int 0, .int 0, .ref a1, .ref a2, .ref a3, .ref a4])), (h1, .inr (1, [.int 0, .int 0, .int 0, .ref b1, .ref b2, .ref b3, .ref b4])), (a1, .inl (ka1, 8, .inl f_42)), (a2, .inl (ka2, 8, .inl f_44)), (a3, .inl (ka3, 8, .inl f_46)), (a4, .inl (ka4, 8, .inl f_48)), (b1, .inl (kb1, 8, .inl gb1)), (b2, .inl (kb2, 8, .inl gb2)), (b3, .inl (kb3, 8, .inl gb3)), (b4, .inl (kb4, 8, .inl gb4))] := hD
  refine lv_iinc (v := 6) (lv' := [(2, .int 6), (0, .ref h0), (1, .ref h1)]) hx hb dX1_take_80 hl (k := 0) rfl (by decide) (by decide) rfl (fun ls hl => ?_)
  refine lv_goto (tgt := 26) hx hb dX1_take_83 (by decide) ?_
  refine lv_iload_n hx hb dX1_take_26 rfl (lv_at hl 0 rfl) ?_
  refine lv_bipush (v := 8) hx hb dX1_take_27 (by decide) ?_
  refine lv_icmp_ge (tgt := 86) hx hb dX1_take_29 (by decide) (fun c9 => absurd c9 (by decide)) (fun _ => ?_)
  refine lv_aload_n hx hb dX1_take_32 rfl (lv_at hl 1 rfl) ?_
  refine va_get (D := (dC, dI)) (ci := 1) (v := .ref a1) (C := RX1) (T := TX1) (N := 7) hx hb hq inX1 hown hK hP 0 rfl rfl 3 (by decide) (hq _ qw_236) (fun _ h9 => h9) rfl dX1_take_33 ?_
  refine lv_iload_n hx hb dX1_take_36 rfl (lv_at hl 0 rfl) ?_
  refine lv_aload_n hx hb dX1_take_37 rfl (lv_at hl 2 rfl) ?_
  refine va_get (D := (dC, dI)) (ci := 1) (v := .ref b1) (C := RX1) (T := TX1) (N := 7) hx hb hq inX1 hown hK hP 1 rfl rfl 3 (by decide) (hq _ qw_236) (fun _ h9 => h9) rfl dX1_take_38 ?_
  refine lv_iload_n hx hb dX1_take_41 rfl (lv_at hl 0 rfl) ?_
  refine va_iald hx hb hK hP 6 4 rfl rfl (inr_ok rfl) dX1_take_42 ?_
  refine lv_topi (fun y_49 ey_49 => ?_)
  refine va_iast hx hb hK hP hD hS 2 0 rfl rfl (inr_ok rfl) dX1_take_43 (fun H locs hP hD hS => ?_)
  generalize upd f_42 (Int32.toNatClampNeg 6) y_49 = f_50 at hP hD
  have hP : va_P (dC, dI) classes [(h0, .inr (1, [.int 0, .int 0, .int 0, .ref a1, .ref a2, .ref a3, .ref a4])), (h1, .inr (1, [.int 0, .int 0, .int 0, .ref b1, .ref b2, .ref b3, .ref b4])), (a1, .inl (ka1, 8, .inl f_50)), (a2, .inl (ka2, 8, .inl f_44)), (a3, .inl (ka3, 8, .inl f_46)), (a4, .inl (ka4, 8, .inl f_48)), (b1, .inl (kb1, 8, .inl gb1)), (b2, .inl (kb2, 8, .inl gb2)), (b3, .inl (kb3, 8, .inl gb3)), (b4, .inl (kb4, 8, .inl gb4))] H := hP
  have hD : va_D A [(h0, .inr (1, [.int 0, .int 0, .int 0, .ref a1, .ref a2, .ref a3, .ref a4])), (h1, .inr (1, [.int 0, .int 0, .int 0, .ref b1, .ref b2, .ref b3, .ref b4])), (a1, .inl (ka1, 8, .inl f_50)), (a2, .inl (ka2, 8, .inl f_44)), (a3, .inl (ka3, 8, .inl f_46)), (a4, .inl (ka4, 8, .inl f_48)), (b1, .inl (kb1, 8, .inl gb1)), (b2, .inl (kb2, 8, .inl gb2)), (b3, .inl (kb3, 8, .inl gb3)), (b4, .inl (kb4, 8, .inl gb4))] := hD
  refine lv_aload_n hx hb dX1_take_44 rfl (lv_at hl 1 rfl) ?_
  refine va_get (D := (dC, dI)) (ci := 1) (v := .ref a2) (C := RX1) (T := TX1) (N := 7) hx hb hq inX1 hown hK hP 0 rfl rfl 4 (by decide) (hq _ qw_239) (fun _ h9 => h9) rfl dX1_take_45 ?_
  refine lv_iload_n hx hb dX1_take_48 rfl (lv_at hl 0 rfl) ?_
  refine lv_aload_n hx hb dX1_take_49 rfl (lv_at hl 2 rfl) ?_
  refine va_get (D := (dC, dI)) (ci := 1) (v := .ref b2) (C := RX1) (T := TX1) (N := 7) hx hb hq inX1 hown hK hP 1 rfl rfl 4 (by decide) (hq _ qw_239) (fun _ h9 => h9) rfl dX1_take_50 ?_
  refine lv_iload_n hx hb dX1_take_53 rfl (lv_at hl 0 rfl) ?_
  refine va_iald hx hb hK hP 7 5 rfl rfl (inr_ok rfl) dX1_take_54 ?_
  refine lv_topi (fun y_51 ey_51 => ?_)
  refine va_iast hx hb hK hP hD hS 3 1 rfl rfl (inr_ok rfl) dX1_take_55 (fun H locs hP hD hS => ?_)
  generalize upd f_44 (Int32.toNatClampNeg 6) y_51 = f_52 at hP hD
  have hP : va_P (dC, dI) classes [(h0, .inr (1, [.int 0, .int 0, .int 0, .ref a1, .ref a2, .ref a3, .ref a4])), (h1, .inr (1, [.int 0, .int 0, .int 0, .ref b1, .ref b2, .ref b3, .ref b4])), (a1, .inl (ka1, 8, .inl f_50)), (a2, .inl (ka2, 8, .inl f_52)), (a3, .inl (ka3, 8, .inl f_46)), (a4, .inl (ka4, 8, .inl f_48)), (b1, .inl (kb1, 8, .inl gb1)), (b2, .inl (kb2, 8, .inl gb2)), (b3, .inl (kb3, 8, .inl gb3)), (b4, .inl (kb4, 8, .inl gb4))] H := hP
  have hD : va_D A [(h0, .inr (1, [.int 0, .int 0, .int 0, .ref a1, .ref a2, .ref a3, .ref a4])), (h1, .inr (1, [.int 0, .int 0, .int 0, .ref b1, .ref b2, .ref b3, .ref b4])), (a1, .inl (ka1, 8, .inl f_50)), (a2, .inl (ka2, 8, .inl f_52)), (a3, .inl (ka3, 8, .inl f_46)), (a4, .inl (ka4, 8, .inl f_48)), (b1, .inl (kb1, 8, .inl gb1)), (b2, .inl (kb2, 8, .inl gb2)), (b3, .inl (kb3, 8, .inl gb3)), (b4, .inl (kb4, 8, .inl gb4))] := hD
  refine lv_aload_n hx hb dX1_take_56 rfl (lv_at hl 1 rfl) ?_
  refine va_get (D := (dC, dI)) (ci := 1) (v := .ref a3) (C := RX1) (T := TX1) (N := 7) hx hb hq inX1 hown hK hP 0 rfl rfl 5 (by decide) (hq _ qw_242) (fun _ h9 => h9) rfl dX1_take_57 ?_
  refine lv_iload_n hx hb dX1_take_60 rfl (lv_at hl 0 rfl) ?_
  refine lv_aload_n hx hb dX1_take_61 rfl (lv_at hl 2 rfl) ?_
  refine va_get (D := (dC, dI)) (ci := 1) (v := .ref b3) (C := RX1) (T := TX1) (N := 7) hx hb hq inX1 hown hK hP 1 rfl rfl 5 (by decide) (hq _ qw_242) (fun _ h9 => h9) rfl dX1_take_62 ?_
  refine lv_iload_n hx hb dX1_take_65 rfl (lv_at hl 0 rfl) ?_
  refine va_iald hx hb hK hP 8 6 rfl rfl (inr_ok rfl) dX1_take_66 ?_
  refine lv_topi (fun y_53 ey_53 => ?_)
  refine va_iast hx hb hK hP hD hS 4 2 rfl rfl (inr_ok rfl) dX1_take_67 (fun H locs hP hD hS => ?_)
  generalize upd f_46 (Int32.toNatClampNeg 6) y_53 = f_54 at hP hD
  have hP : va_P (dC, dI) classes [(h0, .inr (1, [.int 0, .int 0, .int 0, .ref a1, .ref a2, .ref a3, .ref a4])), (h1, .inr (1, [.int 0, .int 0, .int 0, .ref b1, .ref b2, .ref b3, .ref b4])), (a1, .inl (ka1, 8, .inl f_50)), (a2, .inl (ka2, 8, .inl f_52)), (a3, .inl (ka3, 8, .inl f_54)), (a4, .inl (ka4, 8, .inl f_48)), (b1, .inl (kb1, 8, .inl gb1)), (b2, .inl (kb2, 8, .inl gb2)), (b3, .inl (kb3, 8, .inl gb3)), (b4, .inl (kb4, 8, .inl gb4))] H := hP
  have hD : va_D A [(h0, .inr (1, [.int 0, .int 0, .int 0, .ref a1, .ref a2, .ref a3, .ref a4])), (h1, .inr (1, [.int 0, .int 0, .int 0, .ref b1, .ref b2, .ref b3, .ref b4])), (a1, .inl (ka1, 8, .inl f_50)), (a2, .inl (ka2, 8, .inl f_52)), (a3, .inl (ka3, 8, .inl f_54)), (a4, .inl (ka4, 8, .inl f_48)), (b1, .inl (kb1, 8, .inl gb1)), (b2, .inl (kb2, 8, .inl gb2)), (b3, .inl (kb3, 8, .inl gb3)), (b4, .inl (kb4, 8, .inl gb4))] := hD
  refine lv_aload_n hx hb dX1_take_68 rfl (lv_at hl 1 rfl) ?_
  refine va_get (D := (dC, dI)) (ci := 1) (v := .ref a4) (C := RX1) (T := TX1) (N := 7) hx hb hq inX1 hown hK hP 0 rfl rfl 6 (by decide) (hq _ qw_245) (fun _ h9 => h9) rfl dX1_take_69 ?_
  refine lv_iload_n hx hb dX1_take_72 rfl (lv_at hl 0 rfl) ?_
  refine lv_aload_n hx hb dX1_take_73 rfl (lv_at hl 2 rfl) ?_
  refine va_get (D := (dC, dI)) (ci := 1) (v := .ref b4) (C := RX1) (T := TX1) (N := 7) hx hb hq inX1 hown hK hP 1 rfl rfl 6 (by decide) (hq _ qw_245) (fun _ h9 => h9) rfl dX1_take_74 ?_
  refine lv_iload_n hx hb dX1_take_77 rfl (lv_at hl 0 rfl) ?_
  refine va_iald hx hb hK hP 9 7 rfl rfl (inr_ok rfl) dX1_take_78 ?_
  refine lv_topi (fun y_55 ey_55 => ?_)
  refine va_iast hx hb hK hP hD hS 5 3 rfl rfl (inr_ok rfl) dX1_take_79 (fun H locs hP hD hS => ?_)
  generalize upd f_48 (Int32.toNatClampNeg 6) y_55 = f_56 at hP hD
  have hP : va_P (dC, dI) classes [(h0, .inr (1, [.int 0, .int 0, .int 0, .ref a1, .ref a2, .ref a3, .ref a4])), (h1, .inr (1, [.int 0, .int 0, .int 0, .ref b1, .ref b2, .ref b3, .ref b4])), (a1, .inl (ka1, 8, .inl f_50)), (a2, .inl (ka2, 8, .inl f_52)), (a3, .inl (ka3, 8, .inl f_54)), (a4, .inl (ka4, 8, .inl f_56)), (b1, .inl (kb1, 8, .inl gb1)), (b2, .inl (kb2, 8, .inl gb2)), (b3, .inl (kb3, 8, .inl gb3)), (b4, .inl (kb4, 8, .inl gb4))] H := hP
  have hD : va_D A [(h0, .inr (1, [.int 0, .int 0, .int 0, .ref a1, .ref a2, .ref a3, .ref a4])), (h1, .inr (1, [.int 0, .int 0, .int 0, .ref b1, .ref b2, .ref b3, .ref b4])), (a1, .inl (ka1, 8, .inl f_50)), (a2, .inl (ka2, 8, .inl f_52)), (a3, .inl (ka3, 8, .inl f_54)), (a4, .inl (ka4, 8, .inl f_56)), (b1, .inl (kb1, 8, .inl gb1)), (b2, .inl (kb2, 8, .inl gb2)), (b3, .inl (kb3, 8, .inl gb3)), (b4, .inl (kb4, 8, .inl gb4))] := hD
  refine lv_iinc (v := 7) (lv' := [(2, .int 7), (0, .ref h0), (1, .ref h1)]) hx hb dX1_take_80 hl (k := 0) rfl (by decide) (by decide) rfl (fun ls hl => ?_)
  refine lv_goto (tgt := 26) hx hb dX1_take_83 (by decide) ?_
  refine lv_iload_n hx hb dX1_take_26 rfl (lv_at hl 0 rfl) ?_
  refine lv_bipush (v := 8) hx hb dX1_take_27 (by decide) ?_
  refine lv_icmp_ge (tgt := 86) hx hb dX1_take_29 (by decide) (fun c9 => absurd c9 (by decide)) (fun _ => ?_)
  refine lv_aload_n hx hb dX1_take_32 rfl (lv_at hl 1 rfl) ?_
  refine va_get (D := (dC, dI)) (ci := 1) (v := .ref a1) (C := RX1) (T := TX1) (N := 7) hx hb hq inX1 hown hK hP 0 rfl rfl 3 (by decide) (hq _ qw_236) (fun _ h9 => h9) rfl dX1_take_33 ?_
  refine lv_iload_n hx hb dX1_take_36 rfl (lv_at hl 0 rfl) ?_
  refine lv_aload_n hx hb dX1_take_37 rfl (lv_at hl 2 rfl) ?_
  refine va_get (D := (dC, dI)) (ci := 1) (v := .ref b1) (C := RX1) (T := TX1) (N := 7) hx hb hq inX1 hown hK hP 1 rfl rfl 3 (by decide) (hq _ qw_236) (fun _ h9 => h9) rfl dX1_take_38 ?_
  refine lv_iload_n hx hb dX1_take_41 rfl (lv_at hl 0 rfl) ?_
  refine va_iald hx hb hK hP 6 4 rfl rfl (inr_ok rfl) dX1_take_42 ?_
  refine lv_topi (fun y_57 ey_57 => ?_)
  refine va_iast hx hb hK hP hD hS 2 0 rfl rfl (inr_ok rfl) dX1_take_43 (fun H locs hP hD hS => ?_)
  generalize upd f_50 (Int32.toNatClampNeg 7) y_57 = f_58 at hP hD
  have hP : va_P (dC, dI) classes [(h0, .inr (1, [.int 0, .int 0, .int 0, .ref a1, .ref a2, .ref a3, .ref a4])), (h1, .inr (1, [.int 0, .int 0, .int 0, .ref b1, .ref b2, .ref b3, .ref b4])), (a1, .inl (ka1, 8, .inl f_58)), (a2, .inl (ka2, 8, .inl f_52)), (a3, .inl (ka3, 8, .inl f_54)), (a4, .inl (ka4, 8, .inl f_56)), (b1, .inl (kb1, 8, .inl gb1)), (b2, .inl (kb2, 8, .inl gb2)), (b3, .inl (kb3, 8, .inl gb3)), (b4, .inl (kb4, 8, .inl gb4))] H := hP
  have hD : va_D A [(h0, .inr (1, [.int 0, .int 0, .int 0, .ref a1, .ref a2, .ref a3, .ref a4])), (h1, .inr (1, [.int 0, .int 0, .int 0, .ref b1, .ref b2, .ref b3, .ref b4])), (a1, .inl (ka1, 8, .inl f_58)), (a2, .inl (ka2, 8, .inl f_52)), (a3, .inl (ka3, 8, .inl f_54)), (a4, .inl (ka4, 8, .inl f_56)), (b1, .inl (kb1, 8, .inl gb1)), (b2, .inl (kb2, 8, .inl gb2)), (b3, .inl (kb3, 8, .inl gb3)), (b4, .inl (kb4, 8, .inl gb4))] := hD
  refine lv_aload_n hx hb dX1_take_44 rfl (lv_at hl 1 rfl) ?_
  refine va_get (D := (dC, dI)) (ci := 1) (v := .ref a2) (C := RX1) (T := TX1) (N := 7) hx hb hq inX1 hown hK hP 0 rfl rfl 4 (by decide) (hq _ qw_239) (fun _ h9 => h9) rfl dX1_take_45 ?_
  refine lv_iload_n hx hb dX1_take_48 rfl (lv_at hl 0 rfl) ?_
  refine lv_aload_n hx hb dX1_take_49 rfl (lv_at hl 2 rfl) ?_
  refine va_get (D := (dC, dI)) (ci := 1) (v := .ref b2) (C := RX1) (T := TX1) (N := 7) hx hb hq inX1 hown hK hP 1 rfl rfl 4 (by decide) (hq _ qw_239) (fun _ h9 => h9) rfl dX1_take_50 ?_
  refine lv_iload_n hx hb dX1_take_53 rfl (lv_at hl 0 rfl) ?_
  refine va_iald hx hb hK hP 7 5 rfl rfl (inr_ok rfl) dX1_take_54 ?_
  refine lv_topi (fun y_59 ey_59 => ?_)
  refine va_iast hx hb hK hP hD hS 3 1 rfl rfl (inr_ok rfl) dX1_take_55 (fun H locs hP hD hS => ?_)
  generalize upd f_52 (Int32.toNatClampNeg 7) y_59 = f_60 at hP hD
  have hP : va_P (dC, dI) classes [(h0, .inr (1, [.int 0, .int 0, .int 0, .ref a1, .ref a2, .ref a3, .ref a4])), (h1, .inr (1, [.int 0, .int 0, .int 0, .ref b1, .ref b2, .ref b3, .ref b4])), (a1, .inl (ka1, 8, .inl f_58)), (a2, .inl (ka2, 8, .inl f_60)), (a3, .inl (ka3, 8, .inl f_54)), (a4, .inl (ka4, 8, .inl f_56)), (b1, .inl (kb1, 8, .inl gb1)), (b2, .inl (kb2, 8, .inl gb2)), (b3, .inl (kb3, 8, .inl gb3)), (b4, .inl (kb4, 8, .inl gb4))] H := hP
  have hD : va_D A [(h0, .inr (1, [.int 0, .int 0, .int 0, .ref a1, .ref a2, .ref a3, .ref a4])), (h1, .inr (1, [.int 0, .int 0, .int 0, .ref b1, .ref b2, .ref b3, .ref b4])), (a1, .inl (ka1, 8, .inl f_58)), (a2, .inl (ka2, 8, .inl f_60)), (a3, .inl (ka3, 8, .inl f_54)), (a4, .inl (ka4, 8, .inl f_56)), (b1, .inl (kb1, 8, .inl gb1)), (b2, .inl (kb2, 8, .inl gb2)), (b3, .inl (kb3, 8, .inl gb3)), (b4, .inl (kb4, 8, .inl gb4))] := hD
  refine lv_aload_n hx hb dX1_take_56 rfl (lv_at hl 1 rfl) ?_
  refine va_get (D := (dC, dI)) (ci := 1) (v := .ref a3) (C := RX1) (T := TX1) (N := 7) hx hb hq inX1 hown hK hP 0 rfl rfl 5 (by decide) (hq _ qw_242) (fun _ h9 => h9) rfl dX1_take_57 ?_
  refine lv_iload_n hx hb dX1_take_60 rfl (lv_at hl 0 rfl) ?_
  refine lv_aload_n hx hb dX1_take_61 rfl (lv_at hl 2 rfl) ?_
  refine va_get (D := (dC, dI)) (ci := 1) (v := .ref b3) (C := RX1) (T := TX1) (N := 7) hx hb hq inX1 hown hK hP 1 rfl rfl 5 (by decide) (hq _ qw_242) (fun _ h9 => h9) rfl dX1_take_62 ?_
  refine lv_iload_n hx hb dX1_take_65 rfl (lv_at hl 0 rfl) ?_
  refine va_iald hx hb hK hP 8 6 rfl rfl (inr_ok rfl) dX1_take_66 ?_
  refine lv_topi (fun y_61 ey_61 => ?_)
  refine va_iast hx hb hK hP hD hS 4 2 rfl rfl (inr_ok rfl) dX1_take_67 (fun H locs hP hD hS => ?_)
  generalize upd f_54 (Int32.toNatClampNeg 7) y_61 = f_62 at hP hD
  have hP : va_P (dC, dI) classes [(h0, .inr (1, [.int 0, .int 0, .int 0, .ref a1, .ref a2, .ref a3, .ref a4])), (h1, .inr (1, [.int 0, .int 0, .int 0, .ref b1, .ref b2, .ref b3, .ref b4])), (a1, .inl (ka1, 8, .inl f_58)), (a2, .inl (ka2, 8, .inl f_60)), (a3, .inl (ka3, 8, .inl f_62)), (a4, .inl (ka4, 8, .inl f_56)), (b1, .inl (kb1, 8, .inl gb1)), (b2, .inl (kb2, 8, .inl gb2)), (b3, .inl (kb3, 8, .inl gb3)), (b4, .inl (kb4, 8, .inl gb4))] H := hP
  have hD : va_D A [(h0, .inr (1, [.int 0, .int 0, .int 0, .ref a1, .ref a2, .ref a3, .ref a4])), (h1, .inr (1, [.int 0, .int 0, .int 0, .ref b1, .ref b2, .ref b3, .ref b4])), (a1, .inl (ka1, 8, .inl f_58)), (a2, .inl (ka2, 8, .inl f_60)), (a3, .inl (ka3, 8, .inl f_62)), (a4, .inl (ka4, 8, .inl f_56)), (b1, .inl (kb1, 8, .inl gb1)), (b2, .inl (kb2, 8, .inl gb2)), (b3, .inl (kb3, 8, .inl gb3)), (b4, .inl (kb4, 8, .inl gb4))] := hD
  refine lv_aload_n hx hb dX1_take_68 rfl (lv_at hl 1 rfl) ?_
  refine va_get (D := (dC, dI)) (ci := 1) (v := .ref a4) (C := RX1) (T := TX1) (N := 7) hx hb hq inX1 hown hK hP 0 rfl rfl 6 (by decide) (hq _ qw_245) (fun _ h9 => h9) rfl dX1_take_69 ?_
  refine lv_iload_n hx hb dX1_take_72 rfl (lv_at hl 0 rfl) ?_
  refine lv_aload_n hx hb dX1_take_73 rfl (lv_at hl 2 rfl) ?_
  refine va_get (D := (dC, dI)) (ci := 1) (v := .ref b4) (C := RX1) (T := TX1) (N := 7) hx hb hq inX1 hown hK hP 1 rfl rfl 6 (by decide) (hq _ qw_245) (fun _ h9 => h9) rfl dX1_take_74 ?_
  refine lv_iload_n hx hb dX1_take_77 rfl (lv_at hl 0 rfl) ?_
  refine va_iald hx hb hK hP 9 7 rfl rfl (inr_ok rfl) dX1_take_78 ?_
  refine lv_topi (fun y_63 ey_63 => ?_)
  refine va_iast hx hb hK hP hD hS 5 3 rfl rfl (inr_ok rfl) dX1_take_79 (fun H locs hP hD hS => ?_)
  generalize upd f_56 (Int32.toNatClampNeg 7) y_63 = f_64 at hP hD
  have hP : va_P (dC, dI) classes [(h0, .inr (1, [.int 0, .int 0, .int 0, .ref a1, .ref a2, .ref a3, .ref a4])), (h1, .inr (1, [.int 0, .int 0, .int 0, .ref b1, .ref b2, .ref b3, .ref b4])), (a1, .inl (ka1, 8, .inl f_58)), (a2, .inl (ka2, 8, .inl f_60)), (a3, .inl (ka3, 8, .inl f_62)), (a4, .inl (ka4, 8, .inl f_64)), (b1, .inl (kb1, 8, .inl gb1)), (b2, .inl (kb2, 8, .inl gb2)), (b3, .inl (kb3, 8, .inl gb3)), (b4, .inl (kb4, 8, .inl gb4))] H := hP
  have hD : va_D A [(h0, .inr (1, [.int 0, .int 0, .int 0, .ref a1, .ref a2, .ref a3, .ref a4])), (h1, .inr (1, [.int 0, .int 0, .int 0, .ref b1, .ref b2, .ref b3, .ref b4])), (a1, .inl (ka1, 8, .inl f_58)), (a2, .inl (ka2, 8, .inl f_60)), (a3, .inl (ka3, 8, .inl f_62)), (a4, .inl (ka4, 8, .inl f_64)), (b1, .inl (kb1, 8, .inl gb1)), (b2, .inl (kb2, 8, .inl gb2)), (b3, .inl (kb3, 8, .inl gb3)), (b4, .inl (kb4, 8, .inl gb4))] := hD
  refine lv_iinc (v := 8) (lv' := [(2, .int 8), (0, .ref h0), (1, .ref h1)]) hx hb dX1_take_80 hl (k := 0) rfl (by decide) (by decide) rfl (fun ls hl => ?_)
  refine lv_goto (tgt := 26) hx hb dX1_take_83 (by decide) ?_
  refine lv_iload_n hx hb dX1_take_26 rfl (lv_at hl 0 rfl) ?_
  refine lv_bipush (v := 8) hx hb dX1_take_27 (by decide) ?_
  refine lv_icmp_ge (tgt := 86) hx hb dX1_take_29 (by decide) (fun _ => ?_) (fun c9 => absurd c9 (by decide))
  have hP9 := hP.sub (ws' := [(h0, .inr (1, [.int 0, .int 0, .int 0, .ref a1, .ref a2, .ref a3, .ref a4])), (h1, .inr (1, [.int 0, .int 0, .int 0, .ref b1, .ref b2, .ref b3, .ref b4])), (a1, .inl (ka1, 8, .inl f_58)), (a2, .inl (ka2, 8, .inl f_60)), (a3, .inl (ka3, 8, .inl f_62)), (a4, .inl (ka4, 8, .inl f_64)), (b1, .inl (kb1, 8, .inl gb1)), (b2, .inl (kb2, 8, .inl gb2)), (b3, .inl (kb3, 8, .inl gb3)), (b4, .inl (kb4, 8, .inl gb4))]) [0, 1, 2, 3, 4, 5, 6, 7, 8, 9] rfl
  have hD9 := hD.sub (ws' := [(h0, .inr (1, [.int 0, .int 0, .int 0, .ref a1, .ref a2, .ref a3, .ref a4])), (h1, .inr (1, [.int 0, .int 0, .int 0, .ref b1, .ref b2, .ref b3, .ref b4])), (a1, .inl (ka1, 8, .inl f_58)), (a2, .inl (ka2, 8, .inl f_60)), (a3, .inl (ka3, 8, .inl f_62)), (a4, .inl (ka4, 8, .inl f_64)), (b1, .inl (kb1, 8, .inl gb1)), (b2, .inl (kb2, 8, .inl gb2)), (b3, .inl (kb3, 8, .inl gb3)), (b4, .inl (kb4, 8, .inl gb4))]) [0, 1, 2, 3, 4, 5, 6, 7, 8, 9] (by decide) rfl
  have hK9 := hK.sub (tys' := [(ka1, .int), (ka2, .int), (ka3, .int), (ka4, .int), (kb1, .int), (kb2, .int), (kb3, .int), (kb4, .int)]) [0, 1, 2, 3, 4, 5, 6, 7] rfl
  refine W.widen (k := 0) (n := 0) (Nat.le_of_ble_eq_true rfl) (Nat.le_of_ble_eq_true rfl) ?_
  exact W.vret hx hb hr (fun t ht hW => ⟨⟨(), rfl, trivial, f_58, f_60, f_62, f_64, by rw [ht]; exact hP9, va_K.moved hW.alike hK9, hD9⟩, hS.F ht⟩) hS.2.2 dX1_take_86

set_option maxHeartbeats 4000000 in
set_option maxRecDepth 100000 in
/-- c_Evening_take -/
theorem c_Evening_take (l : Launch) (dC : Nat → ClassId) (dI : Nat → Nat → Nat) (sz : Nat) (h0 : Nat) (h1 : Nat) : Met l yX3_take (.code yX3_take cX3_take 2 none :: wsA) ({ frames := 0, cells := 0, slots := 0, locals := 0 }) (va_Pc [.ref h0, .ref h1] (fun U => U.heap.size = sz ∧ va_P (dC, dI) classes [(h0, .inr (3, [.int 0, .int (-1), .int 0, .int 0, .int 0, .long 0])), (h1, .inr (3, [.int 0, .int (-1), .int 0, .int 0, .int 0, .long 0]))] U.heap ∧ va_K (dC, dI) classes [] U ∧ va_D (fun _ => True) [(h0, .inr (3, [.int 0, .int (-1), .int 0, .int 0, .int 0, .long 0])), (h1, .inr (3, [.int 0, .int (-1), .int 0, .int 0, .int 0, .long 0]))] ∧ xE U)) (va_Qv (fun (_ : Unit) => True) (fun _ t => va_P (dC, dI) classes [(h0, .inr (3, [.int 0, .int (-1), .int 0, .int 0, .int 0, .long 0])), (h1, .inr (3, [.int 0, .int (-1), .int 0, .int 0, .int 0, .long 0]))] t.heap ∧ va_K (dC, dI) classes [] t ∧ va_D (va_A [(h0, .inr (3, [.int 0, .int (-1), .int 0, .int 0, .int 0, .long 0])), (h1, .inr (3, [.int 0, .int (-1), .int 0, .int 0, .int 0, .long 0]))] sz) [(h0, .inr (3, [.int 0, .int (-1), .int 0, .int 0, .int 0, .long 0])), (h1, .inr (3, [.int 0, .int (-1), .int 0, .int 0, .int 0, .long 0]))]) (va_A [(h0, .inr (3, [.int 0, .int (-1), .int 0, .int 0, .int 0, .long 0])), (h1, .inr (3, [.int 0, .int (-1), .int 0, .int 0, .int 0, .long 0]))] sz)) 0 0 (va_A [(h0, .inr (3, [.int 0, .int (-1), .int 0, .int 0, .int 0, .long 0])), (h1, .inr (3, [.int 0, .int (-1), .int 0, .int 0, .int 0, .long 0]))] sz) := by
  refine Met.ofW (cc := cX3_take) (maxL := 2) (ret := none) (by decide) rfl ?_
  intro p e s m args below meth c s₁ B hml hv
  obtain ⟨rfl, hsz, hP, hK, hD0, hE⟩ := hv
  have hx := B.exec
  have hb := B.bytes
  have hr := B.returns
  have hts := atoms_spec (ws := .code yX3_take cX3_take 2 none :: wsA) B.pre
  have hq : ∀ w ∈ wsA, w.before _ s = true := fun w h => hts w (List.mem_cons_of_mem _ h)
  have hown : s.vm.findClass RX3 = some m.cls := findClass_of_methodNamed B.named
  have hlocks := B.notSynchronized
  subst hsz
  have hD := hD0.self (sz := s.heap.size)
  generalize hAe : va_A [(h0, .inr (3, [.int 0, .int (-1), .int 0, .int 0, .int 0, .long 0])), (h1, .inr (3, [.int 0, .int (-1), .int 0, .int 0, .int 0, .long 0]))] s.heap.size = A at hD ⊢
  have hA : ∀ q : Nat, s.heap.size ≤ q → A q := fun q h => by rw [← hAe]; exact Or.inr h
  have hS : va_S A s.heap s.heap [] := va_S.rf
  have hl := lv_entry ([.ref h0, .ref h1]) (n := 2) (Nat.le_of_ble_eq_true rfl)
  rw [lg_entry_eq]
  generalize (lg_sl ([.ref h0, .ref h1]) ++ List.replicate (2 - (lg_sl ([.ref h0, .ref h1])).length) Slot.unset).toArray = ls at hl ⊢
  have hl : lv_has ls 2 [(0, .ref h0), (1, .ref h1)] := hl
  refine lv_aload_n hx hb dX3_take_0 rfl (lv_at hl 0 rfl) ?_
  refine lv_aload_n hx hb dX3_take_1 rfl (lv_at hl 1 rfl) ?_
  refine va_get (D := (dC, dI)) (ci := 3) (v := .int 0) (C := RX3) (T := TX3) (N := 6) hx hb hq inX3 hown hK hP 1 rfl rfl 0 (by decide) (hq _ qw_269) (fun _ h9 => h9) rfl dX3_take_2 ?_
  refine va_put (D := (dC, dI)) (ci := 3) (v := .int 0) (ty := .int) (C := RX3) (T := TX3) (N := 6) hx hb hq inX3 tyX3 tyX3_ok nmX3 hown hK hP hD hS 0 rfl rfl 0 (by decide) (hq _ qw_269) (fun _ h9 => h9) rfl (by decide +kernel) rfl rfl (Nat.le_of_ble_eq_true rfl) dX3_take_5 (fun H locs hP hD hS => ?_)
  have hP : va_P (dC, dI) classes [(h0, .inr (3, [.int 0, .int (-1), .int 0, .int 0, .int 0, .long 0])), (h1, .inr (3, [.int 0, .int (-1), .int 0, .int 0, .int 0, .long 0]))] H := hP
  have hD : va_D A [(h0, .inr (3, [.int 0, .int (-1), .int 0, .int 0, .int 0, .long 0])), (h1, .inr (3, [.int 0, .int (-1), .int 0, .int 0, .int 0, .long 0]))] := hD
  refine lv_aload_n hx hb dX3_take_8 rfl (lv_at hl 0 rfl) ?_
  refine lv_aload_n hx hb dX3_take_9 rfl (lv_at hl 1 rfl) ?_
  refine va_get (D := (dC, dI)) (ci := 3) (v := .int (-1)) (C := RX3) (T := TX3) (N := 6) hx hb hq inX3 hown hK hP 1 rfl rfl 1 (by decide) (hq _ qw_272) (fun _ h9 => h9) rfl dX3_take_10 ?_
  refine va_put (D := (dC, dI)) (ci := 3) (v := .int (-1)) (ty := .int) (C := RX3) (T := TX3) (N := 6) hx hb hq inX3 tyX3 tyX3_ok nmX3 hown hK hP hD hS 0 rfl rfl 1 (by decide) (hq _ qw_272) (fun _ h9 => h9) rfl (by decide +kernel) rfl rfl (Nat.le_of_ble_eq_true rfl) dX3_take_13 (fun H locs hP hD hS => ?_)
  have hP : va_P (dC, dI) classes [(h0, .inr (3, [.int 0, .int (-1), .int 0, .int 0, .int 0, .long 0])), (h1, .inr (3, [.int 0, .int (-1), .int 0, .int 0, .int 0, .long 0]))] H := hP
  have hD : va_D A [(h0, .inr (3, [.int 0, .int (-1), .int 0, .int 0, .int 0, .long 0])), (h1, .inr (3, [.int 0, .int (-1), .int 0, .int 0, .int 0, .long 0]))] := hD
  refine lv_aload_n hx hb dX3_take_16 rfl (lv_at hl 0 rfl) ?_
  refine lv_aload_n hx hb dX3_take_17 rfl (lv_at hl 1 rfl) ?_
  refine va_get (D := (dC, dI)) (ci := 3) (v := .int 0) (C := RX3) (T := TX3) (N := 6) hx hb hq inX3 hown hK hP 1 rfl rfl 2 (by decide) (hq _ qw_275) (fun _ h9 => h9) rfl dX3_take_18 ?_
  refine va_put (D := (dC, dI)) (ci := 3) (v := .int 0) (ty := .int) (C := RX3) (T := TX3) (N := 6) hx hb hq inX3 tyX3 tyX3_ok nmX3 hown hK hP hD hS 0 rfl rfl 2 (by decide) (hq _ qw_275) (fun _ h9 => h9) rfl (by decide +kernel) rfl rfl (Nat.le_of_ble_eq_true rfl) dX3_take_21 (fun H locs hP hD hS => ?_)
  have hP : va_P (dC, dI) classes [(h0, .inr (3, [.int 0, .int (-1), .int 0, .int 0, .int 0, .long 0])), (h1, .inr (3, [.int 0, .int (-1), .int 0, .int 0, .int 0, .long 0]))] H := hP
  have hD : va_D A [(h0, .inr (3, [.int 0, .int (-1), .int 0, .int 0, .int 0, .long 0])), (h1, .inr (3, [.int 0, .int (-1), .int 0, .int 0, .int 0, .long 0]))] := hD
  refine lv_aload_n hx hb dX3_take_24 rfl (lv_at hl 0 rfl) ?_
  refine lv_aload_n hx hb dX3_take_25 rfl (lv_at hl 1 rfl) ?_
  refine va_get (D := (dC, dI)) (ci := 3) (v := .int 0) (C := RX3) (T := TX3) (N := 6) hx hb hq inX3 hown hK hP 1 rfl rfl 3 (by decide) (hq _ qw_279) (fun _ h9 => h9) rfl dX3_take_26 ?_
  refine va_put (D := (dC, dI)) (ci := 3) (v := .int 0) (ty := .int) (C := RX3) (T := TX3) (N := 6) hx hb hq inX3 tyX3 tyX3_ok nmX3 hown hK hP hD hS 0 rfl rfl 3 (by decide) (hq _ qw_279) (fun _ h9 => h9) rfl (by decide +kernel) rfl rfl (Nat.le_of_ble_eq_true rfl) dX3_take_29 (fun H locs hP hD hS => ?_)
  have hP : va_P (dC, dI) classes [(h0, .inr (3, [.int 0, .int (-1), .int 0, .int 0, .int 0, .long 0])), (h1, .inr (3, [.int 0, .int (-1), .int 0, .int 0, .int 0, .long 0]))] H := hP
  have hD : va_D A [(h0, .inr (3, [.int 0, .int (-1), .int 0, .int 0, .int 0, .long 0])), (h1, .inr (3, [.int 0, .int (-1), .int 0, .int 0, .int 0, .long 0]))] := hD
  refine lv_aload_n hx hb dX3_take_32 rfl (lv_at hl 0 rfl) ?_
  refine lv_aload_n hx hb dX3_take_33 rfl (lv_at hl 1 rfl) ?_
  refine va_get (D := (dC, dI)) (ci := 3) (v := .int 0) (C := RX3) (T := TX3) (N := 6) hx hb hq inX3 hown hK hP 1 rfl rfl 4 (by decide) (hq _ qw_282) (fun _ h9 => h9) rfl dX3_take_34 ?_
  refine va_put (D := (dC, dI)) (ci := 3) (v := .int 0) (ty := .int) (C := RX3) (T := TX3) (N := 6) hx hb hq inX3 tyX3 tyX3_ok nmX3 hown hK hP hD hS 0 rfl rfl 4 (by decide) (hq _ qw_282) (fun _ h9 => h9) rfl (by decide +kernel) rfl rfl (Nat.le_of_ble_eq_true rfl) dX3_take_37 (fun H locs hP hD hS => ?_)
  have hP : va_P (dC, dI) classes [(h0, .inr (3, [.int 0, .int (-1), .int 0, .int 0, .int 0, .long 0])), (h1, .inr (3, [.int 0, .int (-1), .int 0, .int 0, .int 0, .long 0]))] H := hP
  have hD : va_D A [(h0, .inr (3, [.int 0, .int (-1), .int 0, .int 0, .int 0, .long 0])), (h1, .inr (3, [.int 0, .int (-1), .int 0, .int 0, .int 0, .long 0]))] := hD
  refine lv_aload_n hx hb dX3_take_40 rfl (lv_at hl 0 rfl) ?_
  refine lv_aload_n hx hb dX3_take_41 rfl (lv_at hl 1 rfl) ?_
  refine va_get (D := (dC, dI)) (ci := 3) (v := .long 0) (C := RX3) (T := TX3) (N := 6) hx hb hq inX3 hown hK hP 1 rfl rfl 5 (by decide) (hq _ qw_285) (fun _ h9 => h9) rfl dX3_take_42 ?_
  refine va_put (D := (dC, dI)) (ci := 3) (v := .long 0) (ty := .long) (C := RX3) (T := TX3) (N := 6) hx hb hq inX3 tyX3 tyX3_ok nmX3 hown hK hP hD hS 0 rfl rfl 5 (by decide) (hq _ qw_285) (fun _ h9 => h9) rfl (by decide +kernel) rfl rfl (Nat.le_of_ble_eq_true rfl) dX3_take_45 (fun H locs hP hD hS => ?_)
  have hP : va_P (dC, dI) classes [(h0, .inr (3, [.int 0, .int (-1), .int 0, .int 0, .int 0, .long 0])), (h1, .inr (3, [.int 0, .int (-1), .int 0, .int 0, .int 0, .long 0]))] H := hP
  have hD : va_D A [(h0, .inr (3, [.int 0, .int (-1), .int 0, .int 0, .int 0, .long 0])), (h1, .inr (3, [.int 0, .int (-1), .int 0, .int 0, .int 0, .long 0]))] := hD
  have hP9 := hP.sub (ws' := [(h0, .inr (3, [.int 0, .int (-1), .int 0, .int 0, .int 0, .long 0])), (h1, .inr (3, [.int 0, .int (-1), .int 0, .int 0, .int 0, .long 0]))]) [0, 1] rfl
  have hD9 := hD.sub (ws' := [(h0, .inr (3, [.int 0, .int (-1), .int 0, .int 0, .int 0, .long 0])), (h1, .inr (3, [.int 0, .int (-1), .int 0, .int 0, .int 0, .long 0]))]) [0, 1] (by decide) rfl
  have hK9 := hK.sub (tys' := []) [] rfl
  refine W.widen (k := 0) (n := 0) (Nat.le_of_ble_eq_true rfl) (Nat.le_of_ble_eq_true rfl) ?_
  exact W.vret hx hb hr (fun t ht hW => ⟨⟨(), rfl, trivial, by rw [ht]; exact hP9, va_K.moved hW.alike hK9, hD9⟩, hS.F ht⟩) hS.2.2 dX3_take_48

set_option maxHeartbeats 4000000 in
set_option maxRecDepth 100000 in
/-- c_Notes_take -/
theorem c_Notes_take (l : Launch) (dC : Nat → ClassId) (dI : Nat → Nat → Nat) (sz : Nat) (h0 : Nat) (h1 : Nat) (a1 : Nat) (a2 : Nat) (a3 : Nat) (a4 : Nat) (b1 : Nat) (b2 : Nat) (b3 : Nat) (b4 : Nat) (ka1 : ClassId) (ka2 : ClassId) (ka3 : ClassId) (ka4 : ClassId) (ga1 : Nat → Int32) (ga2 : Nat → Int32) (ga3 : Nat → Int32) (ga4 : Nat → Int32) (kb1 : ClassId) (kb2 : ClassId) (kb3 : ClassId) (kb4 : ClassId) (gb1 : Nat → Int32) (gb2 : Nat → Int32) (gb3 : Nat → Int32) (gb4 : Nat → Int32) : Met l yX5_take (.code yX5_take cX5_take 3 none :: wsA) ({ frames := 0, cells := 0, slots := 0, locals := 0 }) (va_Pc [.ref h0, .ref h1] (fun U => U.heap.size = sz ∧ va_P (dC, dI) classes [(h0, .inr (5, [.int 0, .ref a1, .ref a2, .ref a3, .ref a4])), (h1, .inr (5, [.int 0, .ref b1, .ref b2, .ref b3, .ref b4])), (a1, .inl (ka1, 10, .inl ga1)), (a2, .inl (ka2, 10, .inl ga2)), (a3, .inl (ka3, 10, .inl ga3)), (a4, .inl (ka4, 10, .inl ga4)), (b1, .inl (kb1, 10, .inl gb1)), (b2, .inl (kb2, 10, .inl gb2)), (b3, .inl (kb3, 10, .inl gb3)), (b4, .inl (kb4, 10, .inl gb4))] U.heap ∧ va_K (dC, dI) classes [(ka1, .int), (ka2, .int), (ka3, .int), (ka4, .int), (kb1, .int), (kb2, .int), (kb3, .int), (kb4, .int)] U ∧ va_D (fun _ => True) [(h0, .inr (5, [.int 0, .ref a1, .ref a2, .ref a3, .ref a4])), (h1, .inr (5, [.int 0, .ref b1, .ref b2, .ref b3, .ref b4])), (a1, .inl (ka1, 10, .inl ga1)), (a2, .inl (ka2, 10, .inl ga2)), (a3, .inl (ka3, 10, .inl ga3)), (a4, .inl (ka4, 10, .inl ga4)), (b1, .inl (kb1, 10, .inl gb1)), (b2, .inl (kb2, 10, .inl gb2)), (b3, .inl (kb3, 10, .inl gb3)), (b4, .inl (kb4, 10, .inl gb4))] ∧ xE U)) (va_Qv (fun (_ : Unit) => True) (fun _ t => ∃ (o_f_74 : Nat → Int32) (o_f_76 : Nat → Int32) (o_f_78 : Nat → Int32) (o_f_80 : Nat → Int32), va_P (dC, dI) classes [(h0, .inr (5, [.int 0, .ref a1, .ref a2, .ref a3, .ref a4])), (h1, .inr (5, [.int 0, .ref b1, .ref b2, .ref b3, .ref b4])), (a1, .inl (ka1, 10, .inl o_f_74)), (a2, .inl (ka2, 10, .inl o_f_76)), (a3, .inl (ka3, 10, .inl o_f_78)), (a4, .inl (ka4, 10, .inl o_f_80)), (b1, .inl (kb1, 10, .inl gb1)), (b2, .inl (kb2, 10, .inl gb2)), (b3, .inl (kb3, 10, .inl gb3)), (b4, .inl (kb4, 10, .inl gb4))] t.heap ∧ va_K (dC, dI) classes [(ka1, .int), (ka2, .int), (ka3, .int), (ka4, .int), (kb1, .int), (kb2, .int), (kb3, .int), (kb4, .int)] t ∧ va_D (va_A [(h0, .inr (5, [.int 0, .ref a1, .ref a2, .ref a3, .ref a4])), (h1, .inr (5, [.int 0, .ref b1, .ref b2, .ref b3, .ref b4])), (a1, .inl (ka1, 10, .inl ga1)), (a2, .inl (ka2, 10, .inl ga2)), (a3, .inl (ka3, 10, .inl ga3)), (a4, .inl (ka4, 10, .inl ga4)), (b1, .inl (kb1, 10, .inl gb1)), (b2, .inl (kb2, 10, .inl gb2)), (b3, .inl (kb3, 10, .inl gb3)), (b4, .inl (kb4, 10, .inl gb4))] sz) [(h0, .inr (5, [.int 0, .ref a1, .ref a2, .ref a3, .ref a4])), (h1, .inr (5, [.int 0, .ref b1, .ref b2, .ref b3, .ref b4])), (a1, .inl (ka1, 10, .inl o_f_74)), (a2, .inl (ka2, 10, .inl o_f_76)), (a3, .inl (ka3, 10, .inl o_f_78)), (a4, .inl (ka4, 10, .inl o_f_80)), (b1, .inl (kb1, 10, .inl gb1)), (b2, .inl (kb2, 10, .inl gb2)), (b3, .inl (kb3, 10, .inl gb3)), (b4, .inl (kb4, 10, .inl gb4))]) (va_A [(h0, .inr (5, [.int 0, .ref a1, .ref a2, .ref a3, .ref a4])), (h1, .inr (5, [.int 0, .ref b1, .ref b2, .ref b3, .ref b4])), (a1, .inl (ka1, 10, .inl ga1)), (a2, .inl (ka2, 10, .inl ga2)), (a3, .inl (ka3, 10, .inl ga3)), (a4, .inl (ka4, 10, .inl ga4)), (b1, .inl (kb1, 10, .inl gb1)), (b2, .inl (kb2, 10, .inl gb2)), (b3, .inl (kb3, 10, .inl gb3)), (b4, .inl (kb4, 10, .inl gb4))] sz)) 0 0 (va_A [(h0, .inr (5, [.int 0, .ref a1, .ref a2, .ref a3, .ref a4])), (h1, .inr (5, [.int 0, .ref b1, .ref b2, .ref b3, .ref b4])), (a1, .inl (ka1, 10, .inl ga1)), (a2, .inl (ka2, 10, .inl ga2)), (a3, .inl (ka3, 10, .inl ga3)), (a4, .inl (ka4, 10, .inl ga4)), (b1, .inl (kb1, 10, .inl gb1)), (b2, .inl (kb2, 10, .inl gb2)), (b3, .inl (kb3, 10, .inl gb3)), (b4, .inl (kb4, 10, .inl gb4))] sz) := by
  refine Met.ofW (cc := cX5_take) (maxL := 3) (ret := none) (by decide) rfl ?_
  intro p e s m args below meth c s₁ B hml hv
  obtain ⟨rfl, hsz, hP, hK, hD0, hE⟩ := hv
  have hx := B.exec
  have hb := B.bytes
  have hr := B.returns
  have hts := atoms_spec (ws := .code yX5_take cX5_take 3 none :: wsA) B.pre
  have hq : ∀ w ∈ wsA, w.before _ s = true := fun w h => hts w (List.mem_cons_of_mem _ h)
  have hown : s.vm.findClass RX5 = some m.cls := findClass_of_methodNamed B.named
  have hlocks := B.notSynchronized
  subst hsz
  have hD := hD0.self (sz := s.heap.size)
  generalize hAe : va_A [(h0, .inr (5, [.int 0, .ref a1, .ref a2, .ref a3, .ref a4])), (h1, .inr (5, [.int 0, .ref b1, .ref b2, .ref b3, .ref b4])), (a1, .inl (ka1, 10, .inl ga1)), (a2, .inl (ka2, 10, .inl ga2)), (a3, .inl (ka3, 10, .inl ga3)), (a4, .inl (ka4, 10, .inl ga4)), (b1, .inl (kb1, 10, .inl gb1)), (b2, .inl (kb2, 10, .inl gb2)), (b3, .inl (kb3, 10, .inl gb3)), (b4, .inl (kb4, 10, .inl gb4))] s.heap.size = A at hD ⊢
  have hA : ∀ q : Nat, s.heap.size ≤ q → A q := fun q h => by rw [← hAe]; exact Or.inr h
  have hS : va_S A s.heap s.heap [] := va_S.rf
  have hl := lv_entry ([.ref h0, .ref h1]) (n := 3) (Nat.le_of_ble_eq_true rfl)
  rw [lg_entry_eq]
  generalize (lg_sl ([.ref h0, .ref h1]) ++ List.replicate (3 - (lg_sl ([.ref h0, .ref h1])).length) Slot.unset).toArray = ls at hl ⊢
  have hl : lv_has ls 3 [(0, .ref h0), (1, .ref h1)] := hl
  refine lv_aload_n hx hb dX5_take_0 rfl (lv_at hl 0 rfl) ?_
  refine lv_aload_n hx hb dX5_take_1 rfl (lv_at hl 1 rfl) ?_
  refine va_get (D := (dC, dI)) (ci := 5) (v := .int 0) (C := RX5) (T := TX5) (N := 5) hx hb hq inX5 hown hK hP 1 rfl rfl 0 (by decide) (hq _ qw_307) (fun _ h9 => h9) rfl dX5_take_2 ?_
  refine va_put (D := (dC, dI)) (ci := 5) (v := .int 0) (ty := .int) (C := RX5) (T := TX5) (N := 5) hx hb hq inX5 tyX5 tyX5_ok nmX5 hown hK hP hD hS 0 rfl rfl 0 (by decide) (hq _ qw_307) (fun _ h9 => h9) rfl (by decide +kernel) rfl rfl (Nat.le_of_ble_eq_true rfl) dX5_take_5 (fun H locs hP hD hS => ?_)
  have hP : va_P (dC, dI) classes [(h0, .inr (5, [.int 0, .ref a1, .ref a2, .ref a3, .ref a4])), (h1, .inr (5, [.int 0, .ref b1, .ref b2, .ref b3, .ref b4])), (a1, .inl (ka1, 10, .inl ga1)), (a2, .inl (ka2, 10, .inl ga2)), (a3, .inl (ka3, 10, .inl ga3)), (a4, .inl (ka4, 10, .inl ga4)), (b1, .inl (kb1, 10, .inl gb1)), (b2, .inl (kb2, 10, .inl gb2)), (b3, .inl (kb3, 10, .inl gb3)), (b4, .inl (kb4, 10, .inl gb4))] H := hP
  have hD : va_D A [(h0, .inr (5, [.int 0, .ref a1, .ref a2, .ref a3, .ref a4])), (h1, .inr (5, [.int 0, .ref b1, .ref b2, .ref b3, .ref b4])), (a1, .inl (ka1, 10, .inl ga1)), (a2, .inl (ka2, 10, .inl ga2)), (a3, .inl (ka3, 10, .inl ga3)), (a4, .inl (ka4, 10, .inl ga4)), (b1, .inl (kb1, 10, .inl gb1)), (b2, .inl (kb2, 10, .inl gb2)), (b3, .inl (kb3, 10, .inl gb3)), (b4, .inl (kb4, 10, .inl gb4))] := hD
  refine lv_iconst (v := 0) hx hb dX5_take_8 (by decide) ?_
  refine lv_istore_n (lv' := [(2, .int 0), (0, .ref h0), (1, .ref h1)]) hx hb dX5_take_9 rfl hl (by decide) rfl (fun ls hl => ?_)
  refine lv_iload_n hx hb dX5_take_10 rfl (lv_at hl 0 rfl) ?_
  refine lv_bipush (v := 10) hx hb dX5_take_11 (by decide) ?_
  refine lv_icmp_ge (tgt := 70) hx hb dX5_take_13 (by decide) (fun c9 => absurd c9 (by decide)) (fun _ => ?_)
  refine lv_aload_n hx hb dX5_take_16 rfl (lv_at hl 1 rfl) ?_
  refine va_get (D := (dC, dI)) (ci := 5) (v := .ref a1) (C := RX5) (T := TX5) (N := 5) hx hb hq inX5 hown hK hP 0 rfl rfl 1 (by decide) (hq _ qw_309) (fun _ h9 => h9) rfl dX5_take_17 ?_
  refine lv_iload_n hx hb dX5_take_20 rfl (lv_at hl 0 rfl) ?_
  refine lv_aload_n hx hb dX5_take_21 rfl (lv_at hl 2 rfl) ?_
  refine va_get (D := (dC, dI)) (ci := 5) (v := .ref b1) (C := RX5) (T := TX5) (N := 5) hx hb hq inX5 hown hK hP 1 rfl rfl 1 (by decide) (hq _ qw_309) (fun _ h9 => h9) rfl dX5_take_22 ?_
  refine lv_iload_n hx hb dX5_take_25 rfl (lv_at hl 0 rfl) ?_
  refine va_iald hx hb hK hP 6 4 rfl rfl (inr_ok rfl) dX5_take_26 ?_
  refine lv_topi (fun y_1 ey_1 => ?_)
  refine va_iast hx hb hK hP hD hS 2 0 rfl rfl (inr_ok rfl) dX5_take_27 (fun H locs hP hD hS => ?_)
  generalize upd ga1 (Int32.toNatClampNeg 0) y_1 = f_2 at hP hD
  have hP : va_P (dC, dI) classes [(h0, .inr (5, [.int 0, .ref a1, .ref a2, .ref a3, .ref a4])), (h1, .inr (5, [.int 0, .ref b1, .ref b2, .ref b3, .ref b4])), (a1, .inl (ka1, 10, .inl f_2)), (a2, .inl (ka2, 10, .inl ga2)), (a3, .inl (ka3, 10, .inl ga3)), (a4, .inl (ka4, 10, .inl ga4)), (b1, .inl (kb1, 10, .inl gb1)), (b2, .inl (kb2, 10, .inl gb2)), (b3, .inl (kb3, 10, .inl gb3)), (b4, .inl (kb4, 10, .inl gb4))] H := hP
  have hD : va_D A [(h0, .inr (5, [.int 0, .ref a1, .ref a2, .ref a3, .ref a4])), (h1, .inr (5, [.int 0, .ref b1, .ref b2, .ref b3, .ref b4])), (a1, .inl (ka1, 10, .inl f_2)), (a2, .inl (ka2, 10, .inl ga2)), (a3, .inl (ka3, 10, .inl ga3)), (a4, .inl (ka4, 10, .inl ga4)), (b1, .inl (kb1, 10, .inl gb1)), (b2, .inl (kb2, 10, .inl gb2)), (b3, .inl (kb3, 10, .inl gb3)), (b4, .inl (kb4, 10, .inl gb4))] := hD
  refine lv_aload_n hx hb dX5_take_28 rfl (lv_at hl 1 rfl) ?_
  refine va_get (D := (dC, dI)) (ci := 5) (v := .ref a2) (C := RX5) (T := TX5) (N := 5) hx hb hq inX5 hown hK hP 0 rfl rfl 2 (by decide) (hq _ qw_310) (fun _ h9 => h9) rfl dX5_take_29 ?_
  refine lv_iload_n hx hb dX5_take_32 rfl (lv_at hl 0 rfl) ?_
  refine lv_aload_n hx hb dX5_take_33 rfl (lv_at hl 2 rfl) ?_
  refine va_get (D := (dC, dI)) (ci := 5) (v := .ref b2) (C := RX5) (T := TX5) (N := 5) hx hb hq inX5 hown hK hP 1 rfl rfl 2 (by decide) (hq _ qw_310) (fun _ h9 => h9) rfl dX5_take_34 ?_
  refine lv_iload_n hx hb dX5_take_37 rfl (lv_at hl 0 rfl) ?_
  refine va_iald hx hb hK hP 7 5 rfl rfl (inr_ok rfl) dX5_take_38 ?_
  refine lv_topi (fun y_3 ey_3 => ?_)
  refine va_iast hx hb hK hP hD hS 3 1 rfl rfl (inr_ok rfl) dX5_take_39 (fun H locs hP hD hS => ?_)
  generalize upd ga2 (Int32.toNatClampNeg 0) y_3 = f_4 at hP hD
  have hP : va_P (dC, dI) classes [(h0, .inr (5, [.int 0, .ref a1, .ref a2, .ref a3, .ref a4])), (h1, .inr (5, [.int 0, .ref b1, .ref b2, .ref b3, .ref b4])), (a1, .inl (ka1, 10, .inl f_2)), (a2, .inl (ka2, 10, .inl f_4)), (a3, .inl (ka3, 10, .inl ga3)), (a4, .inl (ka4, 10, .inl ga4)), (b1, .inl (kb1, 10, .inl gb1)), (b2, .inl (kb2, 10, .inl gb2)), (b3, .inl (kb3, 10, .inl gb3)), (b4, .inl (kb4, 10, .inl gb4))] H := hP
  have hD : va_D A [(h0, .inr (5, [.int 0, .ref a1, .ref a2, .ref a3, .ref a4])), (h1, .inr (5, [.int 0, .ref b1, .ref b2, .ref b3, .ref b4])), (a1, .inl (ka1, 10, .inl f_2)), (a2, .inl (ka2, 10, .inl f_4)), (a3, .inl (ka3, 10, .inl ga3)), (a4, .inl (ka4, 10, .inl ga4)), (b1, .inl (kb1, 10, .inl gb1)), (b2, .inl (kb2, 10, .inl gb2)), (b3, .inl (kb3, 10, .inl gb3)), (b4, .inl (kb4, 10, .inl gb4))] := hD
  refine lv_aload_n hx hb dX5_take_40 rfl (lv_at hl 1 rfl) ?_
  refine va_get (D := (dC, dI)) (ci := 5) (v := .ref a3) (C := RX5) (T := TX5) (N := 5) hx hb hq inX5 hown hK hP 0 rfl rfl 3 (by decide) (hq _ qw_311) (fun _ h9 => h9) rfl dX5_take_41 ?_
  refine lv_iload_n hx hb dX5_take_44 rfl (lv_at hl 0 rfl) ?_
  refine lv_aload_n hx hb dX5_take_45 rfl (lv_at hl 2 rfl) ?_
  refine va_get (D := (dC, dI)) (ci := 5) (v := .ref b3) (C := RX5) (T := TX5) (N := 5) hx hb hq inX5 hown hK hP 1 rfl rfl 3 (by decide) (hq _ qw_311) (fun _ h9 => h9) rfl dX5_take_46 ?_
  refine lv_iload_n hx hb dX5_take_49 rfl (lv_at hl 0 rfl) ?_
  refine va_iald hx hb hK hP 8 6 rfl rfl (inr_ok rfl) dX5_take_50 ?_
  refine lv_topi (fun y_5 ey_5 => ?_)
  refine va_iast hx hb hK hP hD hS 4 2 rfl rfl (inr_ok rfl) dX5_take_51 (fun H locs hP hD hS => ?_)
  generalize upd ga3 (Int32.toNatClampNeg 0) y_5 = f_6 at hP hD
  have hP : va_P (dC, dI) classes [(h0, .inr (5, [.int 0, .ref a1, .ref a2, .ref a3, .ref a4])), (h1, .inr (5, [.int 0, .ref b1, .ref b2, .ref b3, .ref b4])), (a1, .inl (ka1, 10, .inl f_2)), (a2, .inl (ka2, 10, .inl f_4)), (a3, .inl (ka3, 10, .inl f_6)), (a4, .inl (ka4, 10, .inl ga4)), (b1, .inl (kb1, 10, .inl gb1)), (b2, .inl (kb2, 10, .inl gb2)), (b3, .inl (kb3, 10, .inl gb3)), (b4, .inl (kb4, 10, .inl gb4))] H := hP
  have hD : va_D A [(h0, .inr (5, [.int 0, .ref a1, .ref a2, .ref a3, .ref a4])), (h1, .inr (5, [.int 0, .ref b1, .ref b2, .ref b3, .ref b4])), (a1, .inl (ka1, 10, .inl f_2)), (a2, .inl (ka2, 10, .inl f_4)), (a3, .inl (ka3, 10, .inl f_6)), (a4, .inl (ka4, 10, .inl ga4)), (b1, .inl (kb1, 10, .inl gb1)), (b2, .inl (kb2, 10, .inl gb2)), (b3, .inl (kb3, 10, .inl gb3)), (b4, .inl (kb4, 10, .inl gb4))] := hD
  refine lv_aload_n hx hb dX5_take_52 rfl (lv_at hl 1 rfl) ?_
  refine va_get (D := (dC, dI)) (ci := 5) (v := .ref a4) (C := RX5) (T := TX5) (N := 5) hx hb hq inX5 hown hK hP 0 rfl rfl 4 (by decide) (hq _ qw_312) (fun _ h9 => h9) rfl dX5_take_53 ?_
  refine lv_iload_n hx hb dX5_take_56 rfl (lv_at hl 0 rfl) ?_
  refine lv_aload_n hx hb dX5_take_57 rfl (lv_at hl 2 rfl) ?_
  refine va_get (D := (dC, dI)) (ci := 5) (v := .ref b4) (C := RX5) (T := TX5) (N := 5) hx hb hq inX5 hown hK hP 1 rfl rfl 4 (by decide) (hq _ qw_312) (fun _ h9 => h9) rfl dX5_take_58 ?_
  refine lv_iload_n hx hb dX5_take_61 rfl (lv_at hl 0 rfl) ?_
  refine va_iald hx hb hK hP 9 7 rfl rfl (inr_ok rfl) dX5_take_62 ?_
  refine lv_topi (fun y_7 ey_7 => ?_)
  refine va_iast hx hb hK hP hD hS 5 3 rfl rfl (inr_ok rfl) dX5_take_63 (fun H locs hP hD hS => ?_)
  generalize upd ga4 (Int32.toNatClampNeg 0) y_7 = f_8 at hP hD
  have hP : va_P (dC, dI) classes [(h0, .inr (5, [.int 0, .ref a1, .ref a2, .ref a3, .ref a4])), (h1, .inr (5, [.int 0, .ref b1, .ref b2, .ref b3, .ref b4])), (a1, .inl (ka1, 10, .inl f_2)), (a2, .inl (ka2, 10, .inl f_4)), (a3, .inl (ka3, 10, .inl f_6)), (a4, .inl (ka4, 10, .inl f_8)), (b1, .inl (kb1, 10, .inl gb1)), (b2, .inl (kb2, 10, .inl gb2)), (b3, .inl (kb3, 10, .inl gb3)), (b4, .inl (kb4, 10, .inl gb4))] H := hP
  have hD : va_D A [(h0, .inr (5, [.int 0, .ref a1, .ref a2, .ref a3, .ref a4])), (h1, .inr (5, [.int 0, .ref b1, .ref b2, .ref b3, .ref b4])), (a1, .inl (ka1, 10, .inl f_2)), (a2, .inl (ka2, 10, .inl f_4)), (a3, .inl (ka3, 10, .inl f_6)), (a4, .inl (ka4, 10, .inl f_8)), (b1, .inl (kb1, 10, .inl gb1)), (b2, .inl (kb2, 10, .inl gb2)), (b3, .inl (kb3, 10, .inl gb3)), (b4, .inl (kb4, 10, .inl gb4))] := hD
  refine lv_iinc (v := 1) (lv' := [(2, .int 1), (0, .ref h0), (1, .ref h1)]) hx hb dX5_take_64 hl (k := 0) rfl (by decide) (by decide) rfl (fun ls hl => ?_)
  refine lv_goto (tgt := 10) hx hb dX5_take_67 (by decide) ?_
  refine lv_iload_n hx hb dX5_take_10 rfl (lv_at hl 0 rfl) ?_
  refine lv_bipush (v := 10) hx hb dX5_take_11 (by decide) ?_
  refine lv_icmp_ge (tgt := 70) hx hb dX5_take_13 (by decide) (fun c9 => absurd c9 (by decide)) (fun _ => ?_)
  refine lv_aload_n hx hb dX5_take_16 rfl (lv_at hl 1 rfl) ?_
  refine va_get (D := (dC, dI)) (ci := 5) (v := .ref a1) (C := RX5) (T := TX5) (N := 5) hx hb hq inX5 hown hK hP 0 rfl rfl 1 (by decide) (hq _ qw_309) (fun _ h9 => h9) rfl dX5_take_17 ?_
  refine lv_iload_n hx hb dX5_take_20 rfl (lv_at hl 0 rfl) ?_
  refine lv_aload_n hx hb dX5_take_21 rfl (lv_at hl 2 rfl) ?_
  refine va_get (D := (dC, dI)) (ci := 5) (v := .ref b1) (C := RX5) (T := TX5) (N := 5) hx hb hq inX5 hown hK hP 1 rfl rfl 1 (by decide) (hq _ qw_309) (fun _ h9 => h9) rfl dX5_take_22 ?_
  refine lv_iload_n hx hb dX5_take_25 rfl (lv_at hl 0 rfl) ?_
  refine va_iald hx hb hK hP 6 4 rfl rfl (inr_ok rfl) dX5_take_26 ?_
  refine lv_topi (fun y_9 ey_9 => ?_)
  refine va_iast hx hb hK hP hD hS 2 0 rfl rfl (inr_ok rfl) dX5_take_27 (fun H locs hP hD hS => ?_)
  generalize upd f_2 (Int32.toNatClampNeg 1) y_9 = f_10 at hP hD
  have hP : va_P (dC, dI) classes [(h0, .inr (5, [.int 0, .ref a1, .ref a2, .ref a3, .ref a4])), (h1, .inr (5, [.int 0, .ref b1, .ref b2, .ref b3, .ref b4])), (a1, .inl (ka1, 10, .inl f_10)), (a2, .inl (ka2, 10, .inl f_4)), (a3, .inl (ka3, 10, .inl f_6)), (a4, .inl (ka4, 10, .inl f_8)), (b1, .inl (kb1, 10, .inl gb1)), (b2, .inl (kb2, 10, .inl gb2)), (b3, .inl (kb3, 10, .inl gb3)), (b4, .inl (kb4, 10, .inl gb4))] H := hP
  have hD : va_D A [(h0, .inr (5, [.int 0, .ref a1, .ref a2, .ref a3, .ref a4])), (h1, .inr (5, [.int 0, .ref b1, .ref b2, .ref b3, .ref b4])), (a1, .inl (ka1, 10, .inl f_10)), (a2, .inl (ka2, 10, .inl f_4)), (a3, .inl (ka3, 10, .inl f_6)), (a4, .inl (ka4, 10, .inl f_8)), (b1, .inl (kb1, 10, .inl gb1)), (b2, .inl (kb2, 10, .inl gb2)), (b3, .inl (kb3, 10, .inl gb3)), (b4, .inl (kb4, 10, .inl gb4))] := hD
  refine lv_aload_n hx hb dX5_take_28 rfl (lv_at hl 1 rfl) ?_
  refine va_get (D := (dC, dI)) (ci := 5) (v := .ref a2) (C := RX5) (T := TX5) (N := 5) hx hb hq inX5 hown hK hP 0 rfl rfl 2 (by decide) (hq _ qw_310) (fun _ h9 => h9) rfl dX5_take_29 ?_
  refine lv_iload_n hx hb dX5_take_32 rfl (lv_at hl 0 rfl) ?_
  refine lv_aload_n hx hb dX5_take_33 rfl (lv_at hl 2 rfl) ?_
  refine va_get (D := (dC, dI)) (ci := 5) (v := .ref b2) (C := RX5) (T := TX5) (N := 5) hx hb hq inX5 hown hK hP 1 rfl rfl 2 (by decide) (hq _ qw_310) (fun _ h9 => h9) rfl dX5_take_34 ?_
  refine lv_iload_n hx hb dX5_take_37 rfl (lv_at hl 0 rfl) ?_
  refine va_iald hx hb hK hP 7 5 rfl rfl (inr_ok rfl) dX5_take_38 ?_
  refine lv_topi (fun y_11 ey_11 => ?_)
  refine va_iast hx hb hK hP hD hS 3 1 rfl rfl (inr_ok rfl) dX5_take_39 (fun H locs hP hD hS => ?_)
  generalize upd f_4 (Int32.toNatClampNeg 1) y_11 = f_12 at hP hD
  have hP : va_P (dC, dI) classes [(h0, .inr (5, [.int 0, .ref a1, .ref a2, .ref a3, .ref a4])), (h1, .inr (5, [.int 0, .ref b1, .ref b2, .ref b3, .ref b4])), (a1, .inl (ka1, 10, .inl f_10)), (a2, .inl (ka2, 10, .inl f_12)), (a3, .inl (ka3, 10, .inl f_6)), (a4, .inl (ka4, 10, .inl f_8)), (b1, .inl (kb1, 10, .inl gb1)), (b2, .inl (kb2, 10, .inl gb2)), (b3, .inl (kb3, 10, .inl gb3)), (b4, .inl (kb4, 10, .inl gb4))] H := hP
  have hD : va_D A [(h0, .inr (5, [.int 0, .ref a1, .ref a2, .ref a3, .ref a4])), (h1, .inr (5, [.int 0, .ref b1, .ref b2, .ref b3, .ref b4])), (a1, .inl (ka1, 10, .inl f_10)), (a2, .inl (ka2, 10, .inl f_12)), (a3, .inl (ka3, 10, .inl f_6)), (a4, .inl (ka4, 10, .inl f_8)), (b1, .inl (kb1, 10, .inl gb1)), (b2, .inl (kb2, 10, .inl gb2)), (b3, .inl (kb3, 10, .inl gb3)), (b4, .inl (kb4, 10, .inl gb4))] := hD
  refine lv_aload_n hx hb dX5_take_40 rfl (lv_at hl 1 rfl) ?_
  refine va_get (D := (dC, dI)) (ci := 5) (v := .ref a3) (C := RX5) (T := TX5) (N := 5) hx hb hq inX5 hown hK hP 0 rfl rfl 3 (by decide) (hq _ qw_311) (fun _ h9 => h9) rfl dX5_take_41 ?_
  refine lv_iload_n hx hb dX5_take_44 rfl (lv_at hl 0 rfl) ?_
  refine lv_aload_n hx hb dX5_take_45 rfl (lv_at hl 2 rfl) ?_
  refine va_get (D := (dC, dI)) (ci := 5) (v := .ref b3) (C := RX5) (T := TX5) (N := 5) hx hb hq inX5 hown hK hP 1 rfl rfl 3 (by decide) (hq _ qw_311) (fun _ h9 => h9) rfl dX5_take_46 ?_
  refine lv_iload_n hx hb dX5_take_49 rfl (lv_at hl 0 rfl) ?_
  refine va_iald hx hb hK hP 8 6 rfl rfl (inr_ok rfl) dX5_take_50 ?_
  refine lv_topi (fun y_13 ey_13 => ?_)
  refine va_iast hx hb hK hP hD hS 4 2 rfl rfl (inr_ok rfl) dX5_take_51 (fun H locs hP hD hS => ?_)
  generalize upd f_6 (Int32.toNatClampNeg 1) y_13 = f_14 at hP hD
  have hP : va_P (dC, dI) classes [(h0, .inr (5, [.int 0, .ref a1, .ref a2, .ref a3, .ref a4])), (h1, .inr (5, [.int 0, .ref b1, .ref b2, .ref b3, .ref b4])), (a1, .inl (ka1, 10, .inl f_10)), (a2, .inl (ka2, 10, .inl f_12)), (a3, .inl (ka3, 10, .inl f_14)), (a4, .inl (ka4, 10, .inl f_8)), (b1, .inl (kb1, 10, .inl gb1)), (b2, .inl (kb2, 10, .inl gb2)), (b3, .inl (kb3, 10, .inl gb3)), (b4, .inl (kb4, 10, .inl gb4))] H := hP
  have hD : va_D A [(h0, .inr (5, [.int 0, .ref a1, .ref a2, .ref a3, .ref a4])), (h1, .inr (5, [.int 0, .ref b1, .ref b2, .ref b3, .ref b4])), (a1, .inl (ka1, 10, .inl f_10)), (a2, .inl (ka2, 10, .inl f_12)), (a3, .inl (ka3, 10, .inl f_14)), (a4, .inl (ka4, 10, .inl f_8)), (b1, .inl (kb1, 10, .inl gb1)), (b2, .inl (kb2, 10, .inl gb2)), (b3, .inl (kb3, 10, .inl gb3)), (b4, .inl (kb4, 10, .inl gb4))] := hD
  refine lv_aload_n hx hb dX5_take_52 rfl (lv_at hl 1 rfl) ?_
  refine va_get (D := (dC, dI)) (ci := 5) (v := .ref a4) (C := RX5) (T := TX5) (N := 5) hx hb hq inX5 hown hK hP 0 rfl rfl 4 (by decide) (hq _ qw_312) (fun _ h9 => h9) rfl dX5_take_53 ?_
  refine lv_iload_n hx hb dX5_take_56 rfl (lv_at hl 0 rfl) ?_
  refine lv_aload_n hx hb dX5_take_57 rfl (lv_at hl 2 rfl) ?_
  refine va_get (D := (dC, dI)) (ci := 5) (v := .ref b4) (C := RX5) (T := TX5) (N := 5) hx hb hq inX5 hown hK hP 1 rfl rfl 4 (by decide) (hq _ qw_312) (fun _ h9 => h9) rfl dX5_take_58 ?_
  refine lv_iload_n hx hb dX5_take_61 rfl (lv_at hl 0 rfl) ?_
  refine va_iald hx hb hK hP 9 7 rfl rfl (inr_ok rfl) dX5_take_62 ?_
  refine lv_topi (fun y_15 ey_15 => ?_)
  refine va_iast hx hb hK hP hD hS 5 3 rfl rfl (inr_ok rfl) dX5_take_63 (fun H locs hP hD hS => ?_)
  generalize upd f_8 (Int32.toNatClampNeg 1) y_15 = f_16 at hP hD
  have hP : va_P (dC, dI) classes [(h0, .inr (5, [.int 0, .ref a1, .ref a2, .ref a3, .ref a4])), (h1, .inr (5, [.int 0, .ref b1, .ref b2, .ref b3, .ref b4])), (a1, .inl (ka1, 10, .inl f_10)), (a2, .inl (ka2, 10, .inl f_12)), (a3, .inl (ka3, 10, .inl f_14)), (a4, .inl (ka4, 10, .inl f_16)), (b1, .inl (kb1, 10, .inl gb1)), (b2, .inl (kb2, 10, .inl gb2)), (b3, .inl (kb3, 10, .inl gb3)), (b4, .inl (kb4, 10, .inl gb4))] H := hP
  have hD : va_D A [(h0, .inr (5, [.int 0, .ref a1, .ref a2, .ref a3, .ref a4])), (h1, .inr (5, [.int 0, .ref b1, .ref b2, .ref b3, .ref b4])), (a1, .inl (ka1, 10, .inl f_10)), (a2, .inl (ka2, 10, .inl f_12)), (a3, .inl (ka3, 10, .inl f_14)), (a4, .inl (ka4, 10, .inl f_16)), (b1, .inl (kb1, 10, .inl gb1)), (b2, .inl (kb2, 10, .inl gb2)), (b3, .inl (kb3, 10, .inl gb3)), (b4, .inl (kb4, 10, .inl gb4))] := hD
  refine lv_iinc (v := 2) (lv' := [(2, .int 2), (0, .ref h0), (1, .ref h1)]) hx hb dX5_take_64 hl (k := 0) rfl (by decide) (by decide) rfl (fun ls hl => ?_)
  refine lv_goto (tgt := 10) hx hb dX5_take_67 (by decide) ?_
  refine lv_iload_n hx hb dX5_take_10 rfl (lv_at hl 0 rfl) ?_
  refine lv_bipush (v := 10) hx hb dX5_take_11 (by decide) ?_
  refine lv_icmp_ge (tgt := 70) hx hb dX5_take_13 (by decide) (fun c9 => absurd c9 (by decide)) (fun _ => ?_)
  refine lv_aload_n hx hb dX5_take_16 rfl (lv_at hl 1 rfl) ?_
  refine va_get (D := (dC, dI)) (ci := 5) (v := .ref a1) (C := RX5) (T := TX5) (N := 5) hx hb hq inX5 hown hK hP 0 rfl rfl 1 (by decide) (hq _ qw_309) (fun _ h9 => h9) rfl dX5_take_17 ?_
  refine lv_iload_n hx hb dX5_take_20 rfl (lv_at hl 0 rfl) ?_
  refine lv_aload_n hx hb dX5_take_21 rfl (lv_at hl 2 rfl) ?_
  refine va_get (D := (dC, dI)) (ci := 5) (v := .ref b1) (C := RX5) (T := TX5) (N := 5) hx hb hq inX5 hown hK hP 1 rfl rfl 1 (by decide) (hq _ qw_309) (fun _ h9 => h9) rfl dX5_take_22 ?_
  refine lv_iload_n hx hb dX5_take_25 rfl (lv_at hl 0 rfl) ?_
  refine va_iald hx hb hK hP 6 4 rfl rfl (inr_ok rfl) dX5_take_26 ?_
  refine lv_topi (fun y_17 ey_17 => ?_)
  refine va_iast hx hb hK hP hD hS 2 0 rfl rfl (inr_ok rfl) dX5_take_27 (fun H locs hP hD hS => ?_)
  generalize upd f_10 (Int32.toNatClampNeg 2) y_17 = f_18 at hP hD
  have hP : va_P (dC, dI) classes [(h0, .inr (5, [.int 0, .ref a1, .ref a2, .ref a3, .ref a4])), (h1, .inr (5, [.int 0, .ref b1, .ref b2, .ref b3, .ref b4])), (a1, .inl (ka1, 10, .inl f_18)), (a2, .inl (ka2, 10, .inl f_12)), (a3, .inl (ka3, 10, .inl f_14)), (a4, .inl (ka4, 10, .inl f_16)), (b1, .inl (kb1, 10, .inl gb1)), (b2, .inl (kb2, 10, .inl gb2)), (b3, .inl (kb3, 10, .inl gb3)), (b4, .inl (kb4, 10, .inl gb4))] H := hP
  have hD : va_D A [(h0, .inr (5, [.int 0, .ref a1, .ref a2, .ref a3, .ref a4])), (h1, .inr (5, [.int 0, .ref b1, .ref b2, .ref b3, .ref b4])), (a1, .inl (ka1, 10, .inl f_18)), (a2, .inl (ka2, 10, .inl f_12)), (a3, .inl (ka3, 10, .inl f_14)), (a4, .inl (ka4, 10, .inl f_16)), (b1, .inl (kb1, 10, .inl gb1)), (b2, .inl (kb2, 10, .inl gb2)), (b3, .inl (kb3, 10, .inl gb3)), (b4, .inl (kb4, 10, .inl gb4))] := hD
  refine lv_aload_n hx hb dX5_take_28 rfl (lv_at hl 1 rfl) ?_
  refine va_get (D := (dC, dI)) (ci := 5) (v := .ref a2) (C := RX5) (T := TX5) (N := 5) hx hb hq inX5 hown hK hP 0 rfl rfl 2 (by decide) (hq _ qw_310) (fun _ h9 => h9) rfl dX5_take_29 ?_
  refine lv_iload_n hx hb dX5_take_32 rfl (lv_at hl 0 rfl) ?_
  refine lv_aload_n hx hb dX5_take_33 rfl (lv_at hl 2 rfl) ?_
  refine va_get (D := (dC, dI)) (ci := 5) (v := .ref b2) (C := RX5) (T := TX5) (N := 5) hx hb hq inX5 hown hK hP 1 rfl rfl 2 (by decide) (hq _ qw_310) (fun _ h9 => h9) rfl dX5_take_34 ?_
  refine lv_iload_n hx hb dX5_take_37 rfl (lv_at hl 0 rfl) ?_
  refine va_iald hx hb hK hP 7 5 rfl rfl (inr_ok rfl) dX5_take_38 ?_
  refine lv_topi (fun y_19 ey_19 => ?_)
  refine va_iast hx hb hK hP hD hS 3 1 rfl rfl (inr_ok rfl) dX5_take_39 (fun H locs hP hD hS => ?_)
  generalize upd f_12 (Int32.toNatClampNeg 2) y_19 = f_20 at hP hD
  have hP : va_P (dC, dI) classes [(h0, .inr (5, [.int 0, .ref a1, .ref a2, .ref a3, .ref a4])), (h1, .inr (5, [.int 0, .ref b1, .ref b2, .ref b3, .ref b4])), (a1, .inl (ka1, 10, .inl f_18)), (a2, .inl (ka2, 10, .inl f_20)), (a3, .inl (ka3, 10, .inl f_14)), (a4, .inl (ka4, 10, .inl f_16)), (b1, .inl (kb1, 10, .inl gb1)), (b2, .inl (kb2, 10, .inl gb2)), (b3, .inl (kb3, 10, .inl gb3)), (b4, .inl (kb4, 10, .inl gb4))] H := hP
  have hD : va_D A [(h0, .inr (5, [.int 0, .ref a1, .ref a2, .ref a3, .ref a4])), (h1, .inr (5, [.int 0, .ref b1, .ref b2, .ref b3, .ref b4])), (a1, .inl (ka1, 10, .inl f_18)), (a2, .inl (ka2, 10, .inl f_20)), (a3, .inl (ka3, 10, .inl f_14)), (a4, .inl (ka4, 10, .inl f_16)), (b1, .inl (kb1, 10, .inl gb1)), (b2, .inl (kb2, 10, .inl gb2)), (b3, .inl (kb3, 10, .inl gb3)), (b4, .inl (kb4, 10, .inl gb4))] := hD
  refine lv_aload_n hx hb dX5_take_40 rfl (lv_at hl 1 rfl) ?_
  refine va_get (D := (dC, dI)) (ci := 5) (v := .ref a3) (C := RX5) (T := TX5) (N := 5) hx hb hq inX5 hown hK hP 0 rfl rfl 3 (by decide) (hq _ qw_311) (fun _ h9 => h9) rfl dX5_take_41 ?_
  refine lv_iload_n hx hb dX5_take_44 rfl (lv_at hl 0 rfl) ?_
  refine lv_aload_n hx hb dX5_take_45 rfl (lv_at hl 2 rfl) ?_
  refine va_get (D := (dC, dI)) (ci := 5) (v := .ref b3) (C := RX5) (T := TX5) (N := 5) hx hb hq inX5 hown hK hP 1 rfl rfl 3 (by decide) (hq _ qw_311) (fun _ h9 => h9) rfl dX5_take_46 ?_
  refine lv_iload_n hx hb dX5_take_49 rfl (lv_at hl 0 rfl) ?_
  refine va_iald hx hb hK hP 8 6 rfl rfl (inr_ok rfl) dX5_take_50 ?_
  refine lv_topi (fun y_21 ey_21 => ?_)
  refine va_iast hx hb hK hP hD hS 4 2 rfl rfl (inr_ok rfl) dX5_take_51 (fun H locs hP hD hS => ?_)
  generalize upd f_14 (Int32.toNatClampNeg 2) y_21 = f_22 at hP hD
  have hP : va_P (dC, dI) classes [(h0, .inr (5, [.int 0, .ref a1, .ref a2, .ref a3, .ref a4])), (h1, .inr (5, [.int 0, .ref b1, .ref b2, .ref b3, .ref b4])), (a1, .inl (ka1, 10, .inl f_18)), (a2, .inl (ka2, 10, .inl f_20)), (a3, .inl (ka3, 10, .inl f_22)), (a4, .inl (ka4, 10, .inl f_16)), (b1, .inl (kb1, 10, .inl gb1)), (b2, .inl (kb2, 10, .inl gb2)), (b3, .inl (kb3, 10, .inl gb3)), (b4, .inl (kb4, 10, .inl gb4))] H := hP
  have hD : va_D A [(h0, .inr (5, [.int 0, .ref a1, .ref a2, .ref a3, .ref a4])), (h1, .inr (5, [.int 0, .ref b1, .ref b2, .ref b3, .ref b4])), (a1, .inl (ka1, 10, .inl f_18)), (a2, .inl (ka2, 10, .inl f_20)), (a3, .inl (ka3, 10, .inl f_22)), (a4, .inl (ka4, 10, .inl f_16)), (b1, .inl (kb1, 10, .inl gb1)), (b2, .inl (kb2, 10, .inl gb2)), (b3, .inl (kb3, 10, .inl gb3)), (b4, .inl (kb4, 10, .inl gb4))] := hD
  refine lv_aload_n hx hb dX5_take_52 rfl (lv_at hl 1 rfl) ?_
  refine va_get (D := (dC, dI)) (ci := 5) (v := .ref a4) (C := RX5) (T := TX5) (N := 5) hx hb hq inX5 hown hK hP 0 rfl rfl 4 (by decide) (hq _ qw_312) (fun _ h9 => h9) rfl dX5_take_53 ?_
  refine lv_iload_n hx hb dX5_take_56 rfl (lv_at hl 0 rfl) ?_
  refine lv_aload_n hx hb dX5_take_57 rfl (lv_at hl 2 rfl) ?_
  refine va_get (D := (dC, dI)) (ci := 5) (v := .ref b4) (C := RX5) (T := TX5) (N := 5) hx hb hq inX5 hown hK hP 1 rfl rfl 4 (by decide) (hq _ qw_312) (fun _ h9 => h9) rfl dX5_take_58 ?_
  refine lv_iload_n hx hb dX5_take_61 rfl (lv_at hl 0 rfl) ?_
  refine va_iald hx hb hK hP 9 7 rfl rfl (inr_ok rfl) dX5_take_62 ?_
  refine lv_topi (fun y_23 ey_23 => ?_)
  refine va_iast hx hb hK hP hD hS 5 3 rfl rfl (inr_ok rfl) dX5_take_63 (fun H locs hP hD hS => ?_)
  generalize upd f_16 (Int32.toNatClampNeg 2) y_23 = f_24 at hP hD
  have hP : va_P (dC, dI) classes [(h0, .inr (5, [.int 0, .ref a1, .ref a2, .ref a3, .ref a4])), (h1, .inr (5, [.int 0, .ref b1, .ref b2, .ref b3, .ref b4])), (a1, .inl (ka1, 10, .inl f_18)), (a2, .inl (ka2, 10, .inl f_20)), (a3, .inl (ka3, 10, .inl f_22)), (a4, .inl (ka4, 10, .inl f_24)), (b1, .inl (kb1, 10, .inl gb1)), (b2, .inl (kb2, 10, .inl gb2)), (b3, .inl (kb3, 10, .inl gb3)), (b4, .inl (kb4, 10, .inl gb4))] H := hP
  have hD : va_D A [(h0, .inr (5, [.int 0, .ref a1, .ref a2, .ref a3, .ref a4])), (h1, .inr (5, [.int 0, .ref b1, .ref b2, .ref b3, .ref b4])), (a1, .inl (ka1, 10, .inl f_18)), (a2, .inl (ka2, 10, .inl f_20)), (a3, .inl (ka3, 10, .inl f_22)), (a4, .inl (ka4, 10, .inl f_24)), (b1, .inl (kb1, 10, .inl gb1)), (b2, .inl (kb2, 10, .inl gb2)), (b3, .inl (kb3, 10, .inl gb3)), (b4, .inl (kb4, 10, .inl gb4))] := hD
  refine lv_iinc (v := 3) (lv' := [(2, .int 3), (0, .ref h0), (1, .ref h1)]) hx hb dX5_take_64 hl (k := 0) rfl (by decide) (by decide) rfl (fun ls hl => ?_)
  refine lv_goto (tgt := 10) hx hb dX5_take_67 (by decide) ?_
  refine lv_iload_n hx hb dX5_take_10 rfl (lv_at hl 0 rfl) ?_
  refine lv_bipush (v := 10) hx hb dX5_take_11 (by decide) ?_
  refine lv_icmp_ge (tgt := 70) hx hb dX5_take_13 (by decide) (fun c9 => absurd c9 (by decide)) (fun _ => ?_)
  refine lv_aload_n hx hb dX5_take_16 rfl (lv_at hl 1 rfl) ?_
  refine va_get (D := (dC, dI)) (ci := 5) (v := .ref a1) (C := RX5) (T := TX5) (N := 5) hx hb hq inX5 hown hK hP 0 rfl rfl 1 (by decide) (hq _ qw_309) (fun _ h9 => h9) rfl dX5_take_17 ?_
  refine lv_iload_n hx hb dX5_take_20 rfl (lv_at hl 0 rfl) ?_
  refine lv_aload_n hx hb dX5_take_21 rfl (lv_at hl 2 rfl) ?_
  refine va_get (D := (dC, dI)) (ci := 5) (v := .ref b1) (C := RX5) (T := TX5) (N := 5) hx hb hq inX5 hown hK hP 1 rfl rfl 1 (by decide) (hq _ qw_309) (fun _ h9 => h9) rfl dX5_take_22 ?_
  refine lv_iload_n hx hb dX5_take_25 rfl (lv_at hl 0 rfl) ?_
  refine va_iald hx hb hK hP 6 4 rfl rfl (inr_ok rfl) dX5_take_26 ?_
  refine lv_topi (fun y_25 ey_25 => ?_)
  refine va_iast hx hb hK hP hD hS 2 0 rfl rfl (inr_ok rfl) dX5_take_27 (fun H locs hP hD hS => ?_)
  generalize upd f_18 (Int32.toNatClampNeg 3) y_25 = f_26 at hP hD
  have hP : va_P (dC, dI) classes [(h0, .inr (5, [.int 0, .ref a1, .ref a2, .ref a3, .ref a4])), (h1, .inr (5, [.int 0, .ref b1, .ref b2, .ref b3, .ref b4])), (a1, .inl (ka1, 10, .inl f_26)), (a2, .inl (ka2, 10, .inl f_20)), (a3, .inl (ka3, 10, .inl f_22)), (a4, .inl (ka4, 10, .inl f_24)), (b1, .inl (kb1, 10, .inl gb1)), (b2, .inl (kb2, 10, .inl gb2)), (b3, .inl (kb3, 10, .inl gb3)), (b4, .inl (kb4, 10, .inl gb4))] H := hP
  have hD : va_D A [(h0, .inr (5, [.int 0, .ref a1, .ref a2, .ref a3, .ref a4])), (h1, .inr (5, [.int 0, .ref b1, .ref b2, .ref b3, .ref b4])), (a1, .inl (ka1, 10, .inl f_26)), (a2, .inl (ka2, 10, .inl f_20)), (a3, .inl (ka3, 10, .inl f_22)), (a4, .inl (ka4, 10, .inl f_24)), (b1, .inl (kb1, 10, .inl gb1)), (b2, .inl (kb2, 10, .inl gb2)), (b3, .inl (kb3, 10, .inl gb3)), (b4, .inl (kb4, 10, .inl gb4))] := hD
  refine lv_aload_n hx hb dX5_take_28 rfl (lv_at hl 1 rfl) ?_
  refine va_get (D := (dC, dI)) (ci := 5) (v := .ref a2) (C := RX5) (T := TX5) (N := 5) hx hb hq inX5 hown hK hP 0 rfl rfl 2 (by decide) (hq _ qw_310) (fun _ h9 => h9) rfl dX5_take_29 ?_
  refine lv_iload_n hx hb dX5_take_32 rfl (lv_at hl 0 rfl) ?_
  refine lv_aload_n hx hb dX5_take_33 rfl (lv_at hl 2 rfl) ?_
  refine va_get (D := (dC, dI)) (ci := 5) (v := .ref b2) (C := RX5) (T := TX5) (N := 5) hx hb hq inX5 hown hK hP 1 rfl rfl 2 (by decide) (hq _ qw_310) (fun _ h9 => h9) rfl dX5_take_34 ?_
  refine lv_iload_n hx hb dX5_take_37 rfl (lv_at hl 0 rfl) ?_
  refine va_iald hx hb hK hP 7 5 rfl rfl (inr_ok rfl) dX5_take_38 ?_
  refine lv_topi (fun y_27 ey_27 => ?_)
  refine va_iast hx hb hK hP hD hS 3 1 rfl rfl (inr_ok rfl) dX5_take_39 (fun H locs hP hD hS => ?_)
  generalize upd f_20 (Int32.toNatClampNeg 3) y_27 = f_28 at hP hD
  have hP : va_P (dC, dI) classes [(h0, .inr (5, [.int 0, .ref a1, .ref a2, .ref a3, .ref a4])), (h1, .inr (5, [.int 0, .ref b1, .ref b2, .ref b3, .ref b4])), (a1, .inl (ka1, 10, .inl f_26)), (a2, .inl (ka2, 10, .inl f_28)), (a3, .inl (ka3, 10, .inl f_22)), (a4, .inl (ka4, 10, .inl f_24)), (b1, .inl (kb1, 10, .inl gb1)), (b2, .inl (kb2, 10, .inl gb2)), (b3, .inl (kb3, 10, .inl gb3)), (b4, .inl (kb4, 10, .inl gb4))] H := hP
  have hD : va_D A [(h0, .inr (5, [.int 0, .ref a1, .ref a2, .ref a3, .ref a4])), (h1, .inr (5, [.int 0, .ref b1, .ref b2, .ref b3, .ref b4])), (a1, .inl (ka1, 10, .inl f_26)), (a2, .inl (ka2, 10, .inl f_28)), (a3, .inl (ka3, 10, .inl f_22)), (a4, .inl (ka4, 10, .inl f_24)), (b1, .inl (kb1, 10, .inl gb1)), (b2, .inl (kb2, 10, .inl gb2)), (b3, .inl (kb3, 10, .inl gb3)), (b4, .inl (kb4, 10, .inl gb4))] := hD
  refine lv_aload_n hx hb dX5_take_40 rfl (lv_at hl 1 rfl) ?_
  refine va_get (D := (dC, dI)) (ci := 5) (v := .ref a3) (C := RX5) (T := TX5) (N := 5) hx hb hq inX5 hown hK hP 0 rfl rfl 3 (by decide) (hq _ qw_311) (fun _ h9 => h9) rfl dX5_take_41 ?_
  refine lv_iload_n hx hb dX5_take_44 rfl (lv_at hl 0 rfl) ?_
  refine lv_aload_n hx hb dX5_take_45 rfl (lv_at hl 2 rfl) ?_
  refine va_get (D := (dC, dI)) (ci := 5) (v := .ref b3) (C := RX5) (T := TX5) (N := 5) hx hb hq inX5 hown hK hP 1 rfl rfl 3 (by decide) (hq _ qw_311) (fun _ h9 => h9) rfl dX5_take_46 ?_
  refine lv_iload_n hx hb dX5_take_49 rfl (lv_at hl 0 rfl) ?_
  refine va_iald hx hb hK hP 8 6 rfl rfl (inr_ok rfl) dX5_take_50 ?_
  refine lv_topi (fun y_29 ey_29 => ?_)
  refine va_iast hx hb hK hP hD hS 4 2 rfl rfl (inr_ok rfl) dX5_take_51 (fun H locs hP hD hS => ?_)
  generalize upd f_22 (Int32.toNatClampNeg 3) y_29 = f_30 at hP hD
  have hP : va_P (dC, dI) classes [(h0, .inr (5, [.int 0, .ref a1, .ref a2, .ref a3, .ref a4])), (h1, .inr (5, [.int 0, .ref b1, .ref b2, .ref b3, .ref b4])), (a1, .inl (ka1, 10, .inl f_26)), (a2, .inl (ka2, 10, .inl f_28)), (a3, .inl (ka3, 10, .inl f_30)), (a4, .inl (ka4, 10, .inl f_24)), (b1, .inl (kb1, 10, .inl gb1)), (b2, .inl (kb2, 10, .inl gb2)), (b3, .inl (kb3, 10, .inl gb3)), (b4, .inl (kb4, 10, .inl gb4))] H := hP
  have hD : va_D A [(h0, .inr (5, [.int 0, .ref a1, .ref a2, .ref a3, .ref a4])), (h1, .inr (5, [.int 0, .ref b1, .ref b2, .ref b3, .ref b4])), (a1, .inl (ka1, 10, .inl f_26)), (a2, .inl (ka2, 10, .inl f_28)), (a3, .inl (ka3, 10, .inl f_30)), (a4, .inl (ka4, 10, .inl f_24)), (b1, .inl (kb1, 10, .inl gb1)), (b2, .inl (kb2, 10, .inl gb2)), (b3, .inl (kb3, 10, .inl gb3)), (b4, .inl (kb4, 10, .inl gb4))] := hD
  refine lv_aload_n hx hb dX5_take_52 rfl (lv_at hl 1 rfl) ?_
  refine va_get (D := (dC, dI)) (ci := 5) (v := .ref a4) (C := RX5) (T := TX5) (N := 5) hx hb hq inX5 hown hK hP 0 rfl rfl 4 (by decide) (hq _ qw_312) (fun _ h9 => h9) rfl dX5_take_53 ?_
  refine lv_iload_n hx hb dX5_take_56 rfl (lv_at hl 0 rfl) ?_
  refine lv_aload_n hx hb dX5_take_57 rfl (lv_at hl 2 rfl) ?_
  refine va_get (D := (dC, dI)) (ci := 5) (v := .ref b4) (C := RX5) (T := TX5) (N := 5) hx hb hq inX5 hown hK hP 1 rfl rfl 4 (by decide) (hq _ qw_312) (fun _ h9 => h9) rfl dX5_take_58 ?_
  refine lv_iload_n hx hb dX5_take_61 rfl (lv_at hl 0 rfl) ?_
  refine va_iald hx hb hK hP 9 7 rfl rfl (inr_ok rfl) dX5_take_62 ?_
  refine lv_topi (fun y_31 ey_31 => ?_)
  refine va_iast hx hb hK hP hD hS 5 3 rfl rfl (inr_ok rfl) dX5_take_63 (fun H locs hP hD hS => ?_)
  generalize upd f_24 (Int32.toNatClampNeg 3) y_31 = f_32 at hP hD
  have hP : va_P (dC, dI) classes [(h0, .inr (5, [.int 0, .ref a1, .ref a2, .ref a3, .ref a4])), (h1, .inr (5, [.int 0, .ref b1, .ref b2, .ref b3, .ref b4])), (a1, .inl (ka1, 10, .inl f_26)), (a2, .inl (ka2, 10, .inl f_28)), (a3, .inl (ka3, 10, .inl f_30)), (a4, .inl (ka4, 10, .inl f_32)), (b1, .inl (kb1, 10, .inl gb1)), (b2, .inl (kb2, 10, .inl gb2)), (b3, .inl (kb3, 10, .inl gb3)), (b4, .inl (kb4, 10, .inl gb4))] H := hP
  have hD : va_D A [(h0, .inr (5, [.int 0, .ref a1, .ref a2, .ref a3, .ref a4])), (h1, .inr (5, [.int 0, .ref b1, .ref b2, .ref b3, .ref b4])), (a1, .inl (ka1, 10, .inl f_26)), (a2, .inl (ka2, 10, .inl f_28)), (a3, .inl (ka3, 10, .inl f_30)), (a4, .inl (ka4, 10, .inl f_32)), (b1, .inl (kb1, 10, .inl gb1)), (b2, .inl (kb2, 10, .inl gb2)), (b3, .inl (kb3, 10, .inl gb3)), (b4, .inl (kb4, 10, .inl gb4))] := hD
  refine lv_iinc (v := 4) (lv' := [(2, .int 4), (0, .ref h0), (1, .ref h1)]) hx hb dX5_take_64 hl (k := 0) rfl (by decide) (by decide) rfl (fun ls hl => ?_)
  refine lv_goto (tgt := 10) hx hb dX5_take_67 (by decide) ?_
  refine lv_iload_n hx hb dX5_take_10 rfl (lv_at hl 0 rfl) ?_
  refine lv_bipush (v := 10) hx hb dX5_take_11 (by decide) ?_
  refine lv_icmp_ge (tgt := 70) hx hb dX5_take_13 (by decide) (fun c9 => absurd c9 (by decide)) (fun _ => ?_)
  refine lv_aload_n hx hb dX5_take_16 rfl (lv_at hl 1 rfl) ?_
  refine va_get (D := (dC, dI)) (ci := 5) (v := .ref a1) (C := RX5) (T := TX5) (N := 5) hx hb hq inX5 hown hK hP 0 rfl rfl 1 (by decide) (hq _ qw_309) (fun _ h9 => h9) rfl dX5_take_17 ?_
  refine lv_iload_n hx hb dX5_take_20 rfl (lv_at hl 0 rfl) ?_
  refine lv_aload_n hx hb dX5_take_21 rfl (lv_at hl 2 rfl) ?_
  refine va_get (D := (dC, dI)) (ci := 5) (v := .ref b1) (C := RX5) (T := TX5) (N := 5) hx hb hq inX5 hown hK hP 1 rfl rfl 1 (by decide) (hq _ qw_309) (fun _ h9 => h9) rfl dX5_take_22 ?_
  refine lv_iload_n hx hb dX5_take_25 rfl (lv_at hl 0 rfl) ?_
  refine va_iald hx hb hK hP 6 4 rfl rfl (inr_ok rfl) dX5_take_26 ?_
  refine lv_topi (fun y_33 ey_33 => ?_)
  refine va_iast hx hb hK hP hD hS 2 0 rfl rfl (inr_ok rfl) dX5_take_27 (fun H locs hP hD hS => ?_)
  generalize upd f_26 (Int32.toNatClampNeg 4) y_33 = f_34 at hP hD
  have hP : va_P (dC, dI) classes [(h0, .inr (5, [.int 0, .ref a1, .ref a2, .ref a3, .ref a4])), (h1, .inr (5, [.int 0, .ref b1, .ref b2, .ref b3, .ref b4])), (a1, .inl (ka1, 10, .inl f_34)), (a2, .inl (ka2, 10, .inl f_28)), (a3, .inl (ka3, 10, .inl f_30)), (a4, .inl (ka4, 10, .inl f_32)), (b1, .inl (kb1, 10, .inl gb1)), (b2, .inl (kb2, 10, .inl gb2)), (b3, .inl (kb3, 10, .inl gb3)), (b4, .inl (kb4, 10, .inl gb4))] H := hP
  have hD : va_D A [(h0, .inr (5, [.int 0, .ref a1, .ref a2, .ref a3, .ref a4])), (h1, .inr (5, [.int 0, .ref b1, .ref b2, .ref b3, .ref b4])), (a1, .inl (ka1, 10, .inl f_34)), (a2, .inl (ka2, 10, .inl f_28)), (a3, .inl (ka3, 10, .inl f_30)), (a4, .inl (ka4, 10, .inl f_32)), (b1, .inl (kb1, 10, .inl gb1)), (b2, .inl (kb2, 10, .inl gb2)), (b3, .inl (kb3, 10, .inl gb3)), (b4, .inl (kb4, 10, .inl gb4))] := hD
  refine lv_aload_n hx hb dX5_take_28 rfl (lv_at hl 1 rfl) ?_
  refine va_get (D := (dC, dI)) (ci := 5) (v := .ref a2) (C := RX5) (T := TX5) (N := 5) hx hb hq inX5 hown hK hP 0 rfl rfl 2 (by decide) (hq _ qw_310) (fun _ h9 => h9) rfl dX5_take_29 ?_
  refine lv_iload_n hx hb dX5_take_32 rfl (lv_at hl 0 rfl) ?_
  refine lv_aload_n hx hb dX5_take_33 rfl (lv_at hl 2 rfl) ?_
  refine va_get (D := (dC, dI)) (ci := 5) (v := .ref b2) (C := RX5) (T := TX5) (N := 5) hx hb hq inX5 hown hK hP 1 rfl rfl 2 (by decide) (hq _ qw_310) (fun _ h9 => h9) rfl dX5_take_34 ?_
  refine lv_iload_n hx hb dX5_take_37 rfl (lv_at hl 0 rfl) ?_
  refine va_iald hx hb hK hP 7 5 rfl rfl (inr_ok rfl) dX5_take_38 ?_
  refine lv_topi (fun y_35 ey_35 => ?_)
  refine va_iast hx hb hK hP hD hS 3 1 rfl rfl (inr_ok rfl) dX5_take_39 (fun H locs hP hD hS => ?_)
  generalize upd f_28 (Int32.toNatClampNeg 4) y_35 = f_36 at hP hD
  have hP : va_P (dC, dI) classes [(h0, .inr (5, [.int 0, .ref a1, .ref a2, .ref a3, .ref a4])), (h1, .inr (5, [.int 0, .ref b1, .ref b2, .ref b3, .ref b4])), (a1, .inl (ka1, 10, .inl f_34)), (a2, .inl (ka2, 10, .inl f_36)), (a3, .inl (ka3, 10, .inl f_30)), (a4, .inl (ka4, 10, .inl f_32)), (b1, .inl (kb1, 10, .inl gb1)), (b2, .inl (kb2, 10, .inl gb2)), (b3, .inl (kb3, 10, .inl gb3)), (b4, .inl (kb4, 10, .inl gb4))] H := hP
  have hD : va_D A [(h0, .inr (5, [.int 0, .ref a1, .ref a2, .ref a3, .ref a4])), (h1, .inr (5, [.int 0, .ref b1, .ref b2, .ref b3, .ref b4])), (a1, .inl (ka1, 10, .inl f_34)), (a2, .inl (ka2, 10, .inl f_36)), (a3, .inl (ka3, 10, .inl f_30)), (a4, .inl (ka4, 10, .inl f_32)), (b1, .inl (kb1, 10, .inl gb1)), (b2, .inl (kb2, 10, .inl gb2)), (b3, .inl (kb3, 10, .inl gb3)), (b4, .inl (kb4, 10, .inl gb4))] := hD
  refine lv_aload_n hx hb dX5_take_40 rfl (lv_at hl 1 rfl) ?_
  refine va_get (D := (dC, dI)) (ci := 5) (v := .ref a3) (C := RX5) (T := TX5) (N := 5) hx hb hq inX5 hown hK hP 0 rfl rfl 3 (by decide) (hq _ qw_311) (fun _ h9 => h9) rfl dX5_take_41 ?_
  refine lv_iload_n hx hb dX5_take_44 rfl (lv_at hl 0 rfl) ?_
  refine lv_aload_n hx hb dX5_take_45 rfl (lv_at hl 2 rfl) ?_
  refine va_get (D := (dC, dI)) (ci := 5) (v := .ref b3) (C := RX5) (T := TX5) (N := 5) hx hb hq inX5 hown hK hP 1 rfl rfl 3 (by decide) (hq _ qw_311) (fun _ h9 => h9) rfl dX5_take_46 ?_
  refine lv_iload_n hx hb dX5_take_49 rfl (lv_at hl 0 rfl) ?_
  refine va_iald hx hb hK hP 8 6 rfl rfl (inr_ok rfl) dX5_take_50 ?_
  refine lv_topi (fun y_37 ey_37 => ?_)
  refine va_iast hx hb hK hP hD hS 4 2 rfl rfl (inr_ok rfl) dX5_take_51 (fun H locs hP hD hS => ?_)
  generalize upd f_30 (Int32.toNatClampNeg 4) y_37 = f_38 at hP hD
  have hP : va_P (dC, dI) classes [(h0, .inr (5, [.int 0, .ref a1, .ref a2, .ref a3, .ref a4])), (h1, .inr (5, [.int 0, .ref b1, .ref b2, .ref b3, .ref b4])), (a1, .inl (ka1, 10, .inl f_34)), (a2, .inl (ka2, 10, .inl f_36)), (a3, .inl (ka3, 10, .inl f_38)), (a4, .inl (ka4, 10, .inl f_32)), (b1, .inl (kb1, 10, .inl gb1)), (b2, .inl (kb2, 10, .inl gb2)), (b3, .inl (kb3, 10, .inl gb3)), (b4, .inl (kb4, 10, .inl gb4))] H := hP
  have hD : va_D A [(h0, .inr (5, [.int 0, .ref a1, .ref a2, .ref a3, .ref a4])), (h1, .inr (5, [.int 0, .ref b1, .ref b2, .ref b3, .ref b4])), (a1, .inl (ka1, 10, .inl f_34)), (a2, .inl (ka2, 10, .inl f_36)), (a3, .inl (ka3, 10, .inl f_38)), (a4, .inl (ka4, 10, .inl f_32)), (b1, .inl (kb1, 10, .inl gb1)), (b2, .inl (kb2, 10, .inl gb2)), (b3, .inl (kb3, 10, .inl gb3)), (b4, .inl (kb4, 10, .inl gb4))] := hD
  refine lv_aload_n hx hb dX5_take_52 rfl (lv_at hl 1 rfl) ?_
  refine va_get (D := (dC, dI)) (ci := 5) (v := .ref a4) (C := RX5) (T := TX5) (N := 5) hx hb hq inX5 hown hK hP 0 rfl rfl 4 (by decide) (hq _ qw_312) (fun _ h9 => h9) rfl dX5_take_53 ?_
  refine lv_iload_n hx hb dX5_take_56 rfl (lv_at hl 0 rfl) ?_
  refine lv_aload_n hx hb dX5_take_57 rfl (lv_at hl 2 rfl) ?_
  refine va_get (D := (dC, dI)) (ci := 5) (v := .ref b4) (C := RX5) (T := TX5) (N := 5) hx hb hq inX5 hown hK hP 1 rfl rfl 4 (by decide) (hq _ qw_312) (fun _ h9 => h9) rfl dX5_take_58 ?_
  refine lv_iload_n hx hb dX5_take_61 rfl (lv_at hl 0 rfl) ?_
  refine va_iald hx hb hK hP 9 7 rfl rfl (inr_ok rfl) dX5_take_62 ?_
  refine lv_topi (fun y_39 ey_39 => ?_)
  refine va_iast hx hb hK hP hD hS 5 3 rfl rfl (inr_ok rfl) dX5_take_63 (fun H locs hP hD hS => ?_)
  generalize upd f_32 (Int32.toNatClampNeg 4) y_39 = f_40 at hP hD
  have hP : va_P (dC, dI) classes [(h0, .inr (5, [.int 0, .ref a1, .ref a2, .ref a3, .ref a4])), (h1, .inr (5, [.int 0, .ref b1, .ref b2, .ref b3, .ref b4])), (a1, .inl (ka1, 10, .inl f_34)), (a2, .inl (ka2, 10, .inl f_36)), (a3, .inl (ka3, 10, .inl f_38)), (a4, .inl (ka4, 10, .inl f_40)), (b1, .inl (kb1, 10, .inl gb1)), (b2, .inl (kb2, 10, .inl gb2)), (b3, .inl (kb3, 10, .inl gb3)), (b4, .inl (kb4, 10, .inl gb4))] H := hP
  have hD : va_D A [(h0, .inr (5, [.int 0, .ref a1, .ref a2, .ref a3, .ref a4])), (h1, .inr (5, [.int 0, .ref b1, .ref b2, .ref b3, .ref b4])), (a1, .inl (ka1, 10, .inl f_34)), (a2, .inl (ka2, 10, .inl f_36)), (a3, .inl (ka3, 10, .inl f_38)), (a4, .inl (ka4, 10, .inl f_40)), (b1, .inl (kb1, 10, .inl gb1)), (b2, .inl (kb2, 10, .inl gb2)), (b3, .inl (kb3, 10, .inl gb3)), (b4, .inl (kb4, 10, .inl gb4))] := hD
  refine lv_iinc (v := 5) (lv' := [(2, .int 5), (0, .ref h0), (1, .ref h1)]) hx hb dX5_take_64 hl (k := 0) rfl (by decide) (by decide) rfl (fun ls hl => ?_)
  refine lv_goto (tgt := 10) hx hb dX5_take_67 (by decide) ?_
  refine lv_iload_n hx hb dX5_take_10 rfl (lv_at hl 0 rfl) ?_
  refine lv_bipush (v := 10) hx hb dX5_take_11 (by decide) ?_
  refine lv_icmp_ge (tgt := 70) hx hb dX5_take_13 (by decide) (fun c9 => absurd c9 (by decide)) (fun _ => ?_)
  refine lv_aload_n hx hb dX5_take_16 rfl (lv_at hl 1 rfl) ?_
  refine va_get (D := (dC, dI)) (ci := 5) (v := .ref a1) (C := RX5) (T := TX5) (N := 5) hx hb hq inX5 hown hK hP 0 rfl rfl 1 (by decide) (hq _ qw_309) (fun _ h9 => h9) rfl dX5_take_17 ?_
  refine lv_iload_n hx hb dX5_take_20 rfl (lv_at hl 0 rfl) ?_
  refine lv_aload_n hx hb dX5_take_21 rfl (lv_at hl 2 rfl) ?_
  refine va_get (D := (dC, dI)) (ci := 5) (v := .ref b1) (C := RX5) (T := TX5) (N := 5) hx hb hq inX5 hown hK hP 1 rfl rfl 1 (by decide) (hq _ qw_309) (fun _ h9 => h9) rfl dX5_take_22 ?_
  refine lv_iload_n hx hb dX5_take_25 rfl (lv_at hl 0 rfl) ?_
  refine va_iald hx hb hK hP 6 4 rfl rfl (inr_ok rfl) dX5_take_26 ?_
  refine lv_topi (fun y_41 ey_41 => ?_)
  refine va_iast hx hb hK hP hD hS 2 0 rfl rfl (inr_ok rfl) dX5_take_27 (fun H locs hP hD hS => ?_)
  generalize upd f_34 (Int32.toNatClampNeg 5) y_41 = f_42 at hP hD
  have hP : va_P (dC, dI) classes [(h0, .inr (5, [.int 0, .ref a1, .ref a2, .ref a3, .ref a4])), (h1, .inr (5, [.int 0, .ref b1, .ref b2, .ref b3, .ref b4])), (a1, .inl (ka1, 10, .inl f_42)), (a2, .inl (ka2, 10, .inl f_36)), (a3, .inl (ka3, 10, .inl f_38)), (a4, .inl (ka4, 10, .inl f_40)), (b1, .inl (kb1, 10, .inl gb1)), (b2, .inl (kb2, 10, .inl gb2)), (b3, .inl (kb3, 10, .inl gb3)), (b4, .inl (kb4, 10, .inl gb4))] H := hP
  have hD : va_D A [(h0, .inr (5, [.int 0, .ref a1, .ref a2, .ref a3, .ref a4])), (h1, .inr (5, [.int 0, .ref b1, .ref b2, .ref b3, .ref b4])), (a1, .inl (ka1, 10, .inl f_42)), (a2, .inl (ka2, 10, .inl f_36)), (a3, .inl (ka3, 10, .inl f_38)), (a4, .inl (ka4, 10, .inl f_40)), (b1, .inl (kb1, 10, .inl gb1)), (b2, .inl (kb2, 10, .inl gb2)), (b3, .inl (kb3, 10, .inl gb3)), (b4, .inl (kb4, 10, .inl gb4))] := hD
  refine lv_aload_n hx hb dX5_take_28 rfl (lv_at hl 1 rfl) ?_
  refine va_get (D := (dC, dI)) (ci := 5) (v := .ref a2) (C := RX5) (T := TX5) (N := 5) hx hb hq inX5 hown hK hP 0 rfl rfl 2 (by decide) (hq _ qw_310) (fun _ h9 => h9) rfl dX5_take_29 ?_
  refine lv_iload_n hx hb dX5_take_32 rfl (lv_at hl 0 rfl) ?_
  refine lv_aload_n hx hb dX5_take_33 rfl (lv_at hl 2 rfl) ?_
  refine va_get (D := (dC, dI)) (ci := 5) (v := .ref b2) (C := RX5) (T := TX5) (N := 5) hx hb hq inX5 hown hK hP 1 rfl rfl 2 (by decide) (hq _ qw_310) (fun _ h9 => h9) rfl dX5_take_34 ?_
  refine lv_iload_n hx hb dX5_take_37 rfl (lv_at hl 0 rfl) ?_
  refine va_iald hx hb hK hP 7 5 rfl rfl (inr_ok rfl) dX5_take_38 ?_
  refine lv_topi (fun y_43 ey_43 => ?_)
  refine va_iast hx hb hK hP hD hS 3 1 rfl rfl (inr_ok rfl) dX5_take_39 (fun H locs hP hD hS => ?_)
  generalize upd f_36 (Int32.toNatClampNeg 5) y_43 = f_44 at hP hD
  have hP : va_P (dC, dI) classes [(h0, .inr (5, [.int 0, .ref a1, .ref a2, .ref a3, .ref a4])), (h1, .inr (5, [.int 0, .ref b1, .ref b2, .ref b3, .ref b4])), (a1, .inl (ka1, 10, .inl f_42)), (a2, .inl (ka2, 10, .inl f_44)), (a3, .inl (ka3, 10, .inl f_38)), (a4, .inl (ka4, 10, .inl f_40)), (b1, .inl (kb1, 10, .inl gb1)), (b2, .inl (kb2, 10, .inl gb2)), (b3, .inl (kb3, 10, .inl gb3)), (b4, .inl (kb4, 10, .inl gb4))] H := hP
  have hD : va_D A [(h0, .inr (5, [.int 0, .ref a1, .ref a2, .ref a3, .ref a4])), (h1, .inr (5, [.int 0, .ref b1, .ref b2, .ref b3, .ref b4])), (a1, .inl (ka1, 10, .inl f_42)), (a2, .inl (ka2, 10, .inl f_44)), (a3, .inl (ka3, 10, .inl f_38)), (a4, .inl (ka4, 10, .inl f_40)), (b1, .inl (kb1, 10, .inl gb1)), (b2, .inl (kb2, 10, .inl gb2)), (b3, .inl (kb3, 10, .inl gb3)), (b4, .inl (kb4, 10, .inl gb4))] := hD
  refine lv_aload_n hx hb dX5_take_40 rfl (lv_at hl 1 rfl) ?_
  refine va_get (D := (dC, dI)) (ci := 5) (v := .ref a3) (C := RX5) (T := TX5) (N := 5) hx hb hq inX5 hown hK hP 0 rfl rfl 3 (by decide) (hq _ qw_311) (fun _ h9 => h9) rfl dX5_take_41 ?_
  refine lv_iload_n hx hb dX5_take_44 rfl (lv_at hl 0 rfl) ?_
  refine lv_aload_n hx hb dX5_take_45 rfl (lv_at hl 2 rfl) ?_
  refine va_get (D := (dC, dI)) (ci := 5) (v := .ref b3) (C := RX5) (T := TX5) (N := 5) hx hb hq inX5 hown hK hP 1 rfl rfl 3 (by decide) (hq _ qw_311) (fun _ h9 => h9) rfl dX5_take_46 ?_
  refine lv_iload_n hx hb dX5_take_49 rfl (lv_at hl 0 rfl) ?_
  refine va_iald hx hb hK hP 8 6 rfl rfl (inr_ok rfl) dX5_take_50 ?_
  refine lv_topi (fun y_45 ey_45 => ?_)
  refine va_iast hx hb hK hP hD hS 4 2 rfl rfl (inr_ok rfl) dX5_take_51 (fun H locs hP hD hS => ?_)
  generalize upd f_38 (Int32.toNatClampNeg 5) y_45 = f_46 at hP hD
  have hP : va_P (dC, dI) classes [(h0, .inr (5, [.int 0, .ref a1, .ref a2, .ref a3, .ref a4])), (h1, .inr (5, [.int 0, .ref b1, .ref b2, .ref b3, .ref b4])), (a1, .inl (ka1, 10, .inl f_42)), (a2, .inl (ka2, 10, .inl f_44)), (a3, .inl (ka3, 10, .inl f_46)), (a4, .inl (ka4, 10, .inl f_40)), (b1, .inl (kb1, 10, .inl gb1)), (b2, .inl (kb2, 10, .inl gb2)), (b3, .inl (kb3, 10, .inl gb3)), (b4, .inl (kb4, 10, .inl gb4))] H := hP
  have hD : va_D A [(h0, .inr (5, [.int 0, .ref a1, .ref a2, .ref a3, .ref a4])), (h1, .inr (5, [.int 0, .ref b1, .ref b2, .ref b3, .ref b4])), (a1, .inl (ka1, 10, .inl f_42)), (a2, .inl (ka2, 10, .inl f_44)), (a3, .inl (ka3, 10, .inl f_46)), (a4, .inl (ka4, 10, .inl f_40)), (b1, .inl (kb1, 10, .inl gb1)), (b2, .inl (kb2, 10, .inl gb2)), (b3, .inl (kb3, 10, .inl gb3)), (b4, .inl (kb4, 10, .inl gb4))] := hD
  refine lv_aload_n hx hb dX5_take_52 rfl (lv_at hl 1 rfl) ?_
  refine va_get (D := (dC, dI)) (ci := 5) (v := .ref a4) (C := RX5) (T := TX5) (N := 5) hx hb hq inX5 hown hK hP 0 rfl rfl 4 (by decide) (hq _ qw_312) (fun _ h9 => h9) rfl dX5_take_53 ?_
  refine lv_iload_n hx hb dX5_take_56 rfl (lv_at hl 0 rfl) ?_
  refine lv_aload_n hx hb dX5_take_57 rfl (lv_at hl 2 rfl) ?_
  refine va_get (D := (dC, dI)) (ci := 5) (v := .ref b4) (C := RX5) (T := TX5) (N := 5) hx hb hq inX5 hown hK hP 1 rfl rfl 4 (by decide) (hq _ qw_312) (fun _ h9 => h9) rfl dX5_take_58 ?_
  refine lv_iload_n hx hb dX5_take_61 rfl (lv_at hl 0 rfl) ?_
  refine va_iald hx hb hK hP 9 7 rfl rfl (inr_ok rfl) dX5_take_62 ?_
  refine lv_topi (fun y_47 ey_47 => ?_)
  refine va_iast hx hb hK hP hD hS 5 3 rfl rfl (inr_ok rfl) dX5_take_63 (fun H locs hP hD hS => ?_)
  generalize upd f_40 (Int32.toNatClampNeg 5) y_47 = f_48 at hP hD
  have hP : va_P (dC, dI) classes [(h0, .inr (5, [.int 0, .ref a1, .ref a2, .ref a3, .ref a4])), (h1, .inr (5, [.int 0, .ref b1, .ref b2, .ref b3, .ref b4])), (a1, .inl (ka1, 10, .inl f_42)), (a2, .inl (ka2, 10, .inl f_44)), (a3, .inl (ka3, 10, .inl f_46)), (a4, .inl (ka4, 10, .inl f_48)), (b1, .inl (kb1, 10, .inl gb1)), (b2, .inl (kb2, 10, .inl gb2)), (b3, .inl (kb3, 10, .inl gb3)), (b4, .inl (kb4, 10, .inl gb4))] H := hP
  have hD : va_D A [(h0, .inr (5, [.int 0, .ref a1, .ref a2, .ref a3, .ref a4])), (h1, .inr (5, [.int 0, .ref b1, .ref b2, .ref b3, .ref b4])), (a1, .inl (ka1, 10, .inl f_42)), (a2, .inl (ka2, 10, .inl f_44)), (a3, .inl (ka3, 10, .inl f_46)), (a4, .inl (ka4, 10, .inl f_48)), (b1, .inl (kb1, 10, .inl gb1)), (b2, .inl (kb2, 10, .inl gb2)), (b3, .inl (kb3, 10, .inl gb3)), (b4, .inl (kb4, 10, .inl gb4))] := hD
  refine lv_iinc (v := 6) (lv' := [(2, .int 6), (0, .ref h0), (1, .ref h1)]) hx hb dX5_take_64 hl (k := 0) rfl (by decide) (by decide) rfl (fun ls hl => ?_)
  refine lv_goto (tgt := 10) hx hb dX5_take_67 (by decide) ?_
  refine lv_iload_n hx hb dX5_take_10 rfl (lv_at hl 0 rfl) ?_
  refine lv_bipush (v := 10) hx hb dX5_take_11 (by decide) ?_
  refine lv_icmp_ge (tgt := 70) hx hb dX5_take_13 (by decide) (fun c9 => absurd c9 (by decide)) (fun _ => ?_)
  refine lv_aload_n hx hb dX5_take_16 rfl (lv_at hl 1 rfl) ?_
  refine va_get (D := (dC, dI)) (ci := 5) (v := .ref a1) (C := RX5) (T := TX5) (N := 5) hx hb hq inX5 hown hK hP 0 rfl rfl 1 (by decide) (hq _ qw_309) (fun _ h9 => h9) rfl dX5_take_17 ?_
  refine lv_iload_n hx hb dX5_take_20 rfl (lv_at hl 0 rfl) ?_
  refine lv_aload_n hx hb dX5_take_21 rfl (lv_at hl 2 rfl) ?_
  refine va_get (D := (dC, dI)) (ci := 5) (v := .ref b1) (C := RX5) (T := TX5) (N := 5) hx hb hq inX5 hown hK hP 1 rfl rfl 1 (by decide) (hq _ qw_309) (fun _ h9 => h9) rfl dX5_take_22 ?_
  refine lv_iload_n hx hb dX5_take_25 rfl (lv_at hl 0 rfl) ?_
  refine va_iald hx hb hK hP 6 4 rfl rfl (inr_ok rfl) dX5_take_26 ?_
  refine lv_topi (fun y_49 ey_49 => ?_)
  refine va_iast hx hb hK hP hD hS 2 0 rfl rfl (inr_ok rfl) dX5_take_27 (fun H locs hP hD hS => ?_)
  generalize upd f_42 (Int32.toNatClampNeg 6) y_49 = f_50 at hP hD
  have hP : va_P (dC, dI) classes [(h0, .inr (5, [.int 0, .ref a1, .ref a2, .ref a3, .ref a4])), (h1, .inr (5, [.int 0, .ref b1, .ref b2, .ref b3, .ref b4])), (a1, .inl (ka1, 10, .inl f_50)), (a2, .inl (ka2, 10, .inl f_44)), (a3, .inl (ka3, 10, .inl f_46)), (a4, .inl (ka4, 10, .inl f_48)), (b1, .inl (kb1, 10, .inl gb1)), (b2, .inl (kb2, 10, .inl gb2)), (b3, .inl (kb3, 10, .inl gb3)), (b4, .inl (kb4, 10, .inl gb4))] H := hP
  have hD : va_D A [(h0, .inr (5, [.int 0, .ref a1, .ref a2, .ref a3, .ref a4])), (h1, .inr (5, [.int 0, .ref b1, .ref b2, .ref b3, .ref b4])), (a1, .inl (ka1, 10, .inl f_50)), (a2, .inl (ka2, 10, .inl f_44)), (a3, .inl (ka3, 10, .inl f_46)), (a4, .inl (ka4, 10, .inl f_48)), (b1, .inl (kb1, 10, .inl gb1)), (b2, .inl (kb2, 10, .inl gb2)), (b3, .inl (kb3, 10, .inl gb3)), (b4, .inl (kb4, 10, .inl gb4))] := hD
  refine lv_aload_n hx hb dX5_take_28 rfl (lv_at hl 1 rfl) ?_
  refine va_get (D := (dC, dI)) (ci := 5) (v := .ref a2) (C := RX5) (T := TX5) (N := 5) hx hb hq inX5 hown hK hP 0 rfl rfl 2 (by decide) (hq _ qw_310) (fun _ h9 => h9) rfl dX5_take_29 ?_
  refine lv_iload_n hx hb dX5_take_32 rfl (lv_at hl 0 rfl) ?_
  refine lv_aload_n hx hb dX5_take_33 rfl (lv_at hl 2 rfl) ?_
  refine va_get (D := (dC, dI)) (ci := 5) (v := .ref b2) (C := RX5) (T := TX5) (N := 5) hx hb hq inX5 hown hK hP 1 rfl rfl 2 (by decide) (hq _ qw_310) (fun _ h9 => h9) rfl dX5_take_34 ?_
  refine lv_iload_n hx hb dX5_take_37 rfl (lv_at hl 0 rfl) ?_
  refine va_iald hx hb hK hP 7 5 rfl rfl (inr_ok rfl) dX5_take_38 ?_
  refine lv_topi (fun y_51 ey_51 => ?_)
  refine va_iast hx hb hK hP hD hS 3 1 rfl rfl (inr_ok rfl) dX5_take_39 (fun H locs hP hD hS => ?_)
  generalize upd f_44 (Int32.toNatClampNeg 6) y_51 = f_52 at hP hD
  have hP : va_P (dC, dI) classes [(h0, .inr (5, [.int 0, .ref a1, .ref a2, .ref a3, .ref a4])), (h1, .inr (5, [.int 0, .ref b1, .ref b2, .ref b3, .ref b4])), (a1, .inl (ka1, 10, .inl f_50)), (a2, .inl (ka2, 10, .inl f_52)), (a3, .inl (ka3, 10, .inl f_46)), (a4, .inl (ka4, 10, .inl f_48)), (b1, .inl (kb1, 10, .inl gb1)), (b2, .inl (kb2, 10, .inl gb2)), (b3, .inl (kb3, 10, .inl gb3)), (b4, .inl (kb4, 10, .inl gb4))] H := hP
  have hD : va_D A [(h0, .inr (5, [.int 0, .ref a1, .ref a2, .ref a3, .ref a4])), (h1, .inr (5, [.int 0, .ref b1, .ref b2, .ref b3, .ref b4])), (a1, .inl (ka1, 10, .inl f_50)), (a2, .inl (ka2, 10, .inl f_52)), (a3, .inl (ka3, 10, .inl f_46)), (a4, .inl (ka4, 10, .inl f_48)), (b1, .inl (kb1, 10, .inl gb1)), (b2, .inl (kb2, 10, .inl gb2)), (b3, .inl (kb3, 10, .inl gb3)), (b4, .inl (kb4, 10, .inl gb4))] := hD
  refine lv_aload_n hx hb dX5_take_40 rfl (lv_at hl 1 rfl) ?_
  refine va_get (D := (dC, dI)) (ci := 5) (v := .ref a3) (C := RX5) (T := TX5) (N := 5) hx hb hq inX5 hown hK hP 0 rfl rfl 3 (by decide) (hq _ qw_311) (fun _ h9 => h9) rfl dX5_take_41 ?_
  refine lv_iload_n hx hb dX5_take_44 rfl (lv_at hl 0 rfl) ?_
  refine lv_aload_n hx hb dX5_take_45 rfl (lv_at hl 2 rfl) ?_
  refine va_get (D := (dC, dI)) (ci := 5) (v := .ref b3) (C := RX5) (T := TX5) (N := 5) hx hb hq inX5 hown hK hP 1 rfl rfl 3 (by decide) (hq _ qw_311) (fun _ h9 => h9) rfl dX5_take_46 ?_
  refine lv_iload_n hx hb dX5_take_49 rfl (lv_at hl 0 rfl) ?_
  refine va_iald hx hb hK hP 8 6 rfl rfl (inr_ok rfl) dX5_take_50 ?_
  refine lv_topi (fun y_53 ey_53 => ?_)
  refine va_iast hx hb hK hP hD hS 4 2 rfl rfl (inr_ok rfl) dX5_take_51 (fun H locs hP hD hS => ?_)
  generalize upd f_46 (Int32.toNatClampNeg 6) y_53 = f_54 at hP hD
  have hP : va_P (dC, dI) classes [(h0, .inr (5, [.int 0, .ref a1, .ref a2, .ref a3, .ref a4])), (h1, .inr (5, [.int 0, .ref b1, .ref b2, .ref b3, .ref b4])), (a1, .inl (ka1, 10, .inl f_50)), (a2, .inl (ka2, 10, .inl f_52)), (a3, .inl (ka3, 10, .inl f_54)), (a4, .inl (ka4, 10, .inl f_48)), (b1, .inl (kb1, 10, .inl gb1)), (b2, .inl (kb2, 10, .inl gb2)), (b3, .inl (kb3, 10, .inl gb3)), (b4, .inl (kb4, 10, .inl gb4))] H := hP
  have hD : va_D A [(h0, .inr (5, [.int 0, .ref a1, .ref a2, .ref a3, .ref a4])), (h1, .inr (5, [.int 0, .ref b1, .ref b2, .ref b3, .ref b4])), (a1, .inl (ka1, 10, .inl f_50)), (a2, .inl (ka2, 10, .inl f_52)), (a3, .inl (ka3, 10, .inl f_54)), (a4, .inl (ka4, 10, .inl f_48)), (b1, .inl (kb1, 10, .inl gb1)), (b2, .inl (kb2, 10, .inl gb2)), (b3, .inl (kb3, 10, .inl gb3)), (b4, .inl (kb4, 10, .inl gb4))] := hD
  refine lv_aload_n hx hb dX5_take_52 rfl (lv_at hl 1 rfl) ?_
  refine va_get (D := (dC, dI)) (ci := 5) (v := .ref a4) (C := RX5) (T := TX5) (N := 5) hx hb hq inX5 hown hK hP 0 rfl rfl 4 (by decide) (hq _ qw_312) (fun _ h9 => h9) rfl dX5_take_53 ?_
  refine lv_iload_n hx hb dX5_take_56 rfl (lv_at hl 0 rfl) ?_
  refine lv_aload_n hx hb dX5_take_57 rfl (lv_at hl 2 rfl) ?_
  refine va_get (D := (dC, dI)) (ci := 5) (v := .ref b4) (C := RX5) (T := TX5) (N := 5) hx hb hq inX5 hown hK hP 1 rfl rfl 4 (by decide) (hq _ qw_312) (fun _ h9 => h9) rfl dX5_take_58 ?_
  refine lv_iload_n hx hb dX5_take_61 rfl (lv_at hl 0 rfl) ?_
  refine va_iald hx hb hK hP 9 7 rfl rfl (inr_ok rfl) dX5_take_62 ?_
  refine lv_topi (fun y_55 ey_55 => ?_)
  refine va_iast hx hb hK hP hD hS 5 3 rfl rfl (inr_ok rfl) dX5_take_63 (fun H locs hP hD hS => ?_)
  generalize upd f_48 (Int32.toNatClampNeg 6) y_55 = f_56 at hP hD
  have hP : va_P (dC, dI) classes [(h0, .inr (5, [.int 0, .ref a1, .ref a2, .ref a3, .ref a4])), (h1, .inr (5, [.int 0, .ref b1, .ref b2, .ref b3, .ref b4])), (a1, .inl (ka1, 10, .inl f_50)), (a2, .inl (ka2, 10, .inl f_52)), (a3, .inl (ka3, 10, .inl f_54)), (a4, .inl (ka4, 10, .inl f_56)), (b1, .inl (kb1, 10, .inl gb1)), (b2, .inl (kb2, 10, .inl gb2)), (b3, .inl (kb3, 10, .inl gb3)), (b4, .inl (kb4, 10, .inl gb4))] H := hP
  have hD : va_D A [(h0, .inr (5, [.int 0, .ref a1, .ref a2, .ref a3, .ref a4])), (h1, .inr (5, [.int 0, .ref b1, .ref b2, .ref b3, .ref b4])), (a1, .inl (ka1, 10, .inl f_50)), (a2, .inl (ka2, 10, .inl f_52)), (a3, .inl (ka3, 10, .inl f_54)), (a4, .inl (ka4, 10, .inl f_56)), (b1, .inl (kb1, 10, .inl gb1)), (b2, .inl (kb2, 10, .inl gb2)), (b3, .inl (kb3, 10, .inl gb3)), (b4, .inl (kb4, 10, .inl gb4))] := hD
  refine lv_iinc (v := 7) (lv' := [(2, .int 7), (0, .ref h0), (1, .ref h1)]) hx hb dX5_take_64 hl (k := 0) rfl (by decide) (by decide) rfl (fun ls hl => ?_)
  refine lv_goto (tgt := 10) hx hb dX5_take_67 (by decide) ?_
  refine lv_iload_n hx hb dX5_take_10 rfl (lv_at hl 0 rfl) ?_
  refine lv_bipush (v := 10) hx hb dX5_take_11 (by decide) ?_
  refine lv_icmp_ge (tgt := 70) hx hb dX5_take_13 (by decide) (fun c9 => absurd c9 (by decide)) (fun _ => ?_)
  refine lv_aload_n hx hb dX5_take_16 rfl (lv_at hl 1 rfl) ?_
  refine va_get (D := (dC, dI)) (ci := 5) (v := .ref a1) (C := RX5) (T := TX5) (N := 5) hx hb hq inX5 hown hK hP 0 rfl rfl 1 (by decide) (hq _ qw_309) (fun _ h9 => h9) rfl dX5_take_17 ?_
  refine lv_iload_n hx hb dX5_take_20 rfl (lv_at hl 0 rfl) ?_
  refine lv_aload_n hx hb dX5_take_21 rfl (lv_at hl 2 rfl) ?_
  refine va_get (D := (dC, dI)) (ci := 5) (v := .ref b1) (C := RX5) (T := TX5) (N := 5) hx hb hq inX5 hown hK hP 1 rfl rfl 1 (by decide) (hq _ qw_309) (fun _ h9 => h9) rfl dX5_take_22 ?_
  refine lv_iload_n hx hb dX5_take_25 rfl (lv_at hl 0 rfl) ?_
  refine va_iald hx hb hK hP 6 4 rfl rfl (inr_ok rfl) dX5_take_26 ?_
  refine lv_topi (fun y_57 ey_57 => ?_)
  refine va_iast hx hb hK hP hD hS 2 0 rfl rfl (inr_ok rfl) dX5_take_27 (fun H locs hP hD hS => ?_)
  generalize upd f_50 (Int32.toNatClampNeg 7) y_57 = f_58 at hP hD
  have hP : va_P (dC, dI) classes [(h0, .inr (5, [.int 0, .ref a1, .ref a2, .ref a3, .ref a4])), (h1, .inr (5, [.int 0, .ref b1, .ref b2, .ref b3, .ref b4])), (a1, .inl (ka1, 10, .inl f_58)), (a2, .inl (ka2, 10, .inl f_52)), (a3, .inl (ka3, 10, .inl f_54)), (a4, .inl (ka4, 10, .inl f_56)), (b1, .inl (kb1, 10, .inl gb1)), (b2, .inl (kb2, 10, .inl gb2)), (b3, .inl (kb3, 10, .inl gb3)), (b4, .inl (kb4, 10, .inl gb4))] H := hP
  have hD : va_D A [(h0, .inr (5, [.int 0, .ref a1, .ref a2, .ref a3, .ref a4])), (h1, .inr (5, [.int 0, .ref b1, .ref b2, .ref b3, .ref b4])), (a1, .inl (ka1, 10, .inl f_58)), (a2, .inl (ka2, 10, .inl f_52)), (a3, .inl (ka3, 10, .inl f_54)), (a4, .inl (ka4, 10, .inl f_56)), (b1, .inl (kb1, 10, .inl gb1)), (b2, .inl (kb2, 10, .inl gb2)), (b3, .inl (kb3, 10, .inl gb3)), (b4, .inl (kb4, 10, .inl gb4))] := hD
  refine lv_aload_n hx hb dX5_take_28 rfl (lv_at hl 1 rfl) ?_
  refine va_get (D := (dC, dI)) (ci := 5) (v := .ref a2) (C := RX5) (T := TX5) (N := 5) hx hb hq inX5 hown hK hP 0 rfl rfl 2 (by decide) (hq _ qw_310) (fun _ h9 => h9) rfl dX5_take_29 ?_
  refine lv_iload_n hx hb dX5_take_32 rfl (lv_at hl 0 rfl) ?_
  refine lv_aload_n hx hb dX5_take_33 rfl (lv_at hl 2 rfl) ?_
  refine va_get (D := (dC, dI)) (ci := 5) (v := .ref b2) (C := RX5) (T := TX5) (N := 5) hx hb hq inX5 hown hK hP 1 rfl rfl 2 (by decide) (hq _ qw_310) (fun _ h9 => h9) rfl dX5_take_34 ?_
  refine lv_iload_n hx hb dX5_take_37 rfl (lv_at hl 0 rfl) ?_
  refine va_iald hx hb hK hP 7 5 rfl rfl (inr_ok rfl) dX5_take_38 ?_
  refine lv_topi (fun y_59 ey_59 => ?_)
  refine va_iast hx hb hK hP hD hS 3 1 rfl rfl (inr_ok rfl) dX5_take_39 (fun H locs hP hD hS => ?_)
  generalize upd f_52 (Int32.toNatClampNeg 7) y_59 = f_60 at hP hD
  have hP : va_P (dC, dI) classes [(h0, .inr (5, [.int 0, .ref a1, .ref a2, .ref a3, .ref a4])), (h1, .inr (5, [.int 0, .ref b1, .ref b2, .ref b3, .ref b4])), (a1, .inl (ka1, 10, .inl f_58)), (a2, .inl (ka2, 10, .inl f_60)), (a3, .inl (ka3, 10, .inl f_54)), (a4, .inl (ka4, 10, .inl f_56)), (b1, .inl (kb1, 10, .inl gb1)), (b2, .inl (kb2, 10, .inl gb2)), (b3, .inl (kb3, 10, .inl gb3)), (b4, .inl (kb4, 10, .inl gb4))] H := hP
  have hD : va_D A [(h0, .inr (5, [.int 0, .ref a1, .ref a2, .ref a3, .ref a4])), (h1, .inr (5, [.int 0, .ref b1, .ref b2, .ref b3, .ref b4])), (a1, .inl (ka1, 10, .inl f_58)), (a2, .inl (ka2, 10, .inl f_60)), (a3, .inl (ka3, 10, .inl f_54)), (a4, .inl (ka4, 10, .inl f_56)), (b1, .inl (kb1, 10, .inl gb1)), (b2, .inl (kb2, 10, .inl gb2)), (b3, .inl (kb3, 10, .inl gb3)), (b4, .inl (kb4, 10, .inl gb4))] := hD
  refine lv_aload_n hx hb dX5_take_40 rfl (lv_at hl 1 rfl) ?_
  refine va_get (D := (dC, dI)) (ci := 5) (v := .ref a3) (C := RX5) (T := TX5) (N := 5) hx hb hq inX5 hown hK hP 0 rfl rfl 3 (by decide) (hq _ qw_311) (fun _ h9 => h9) rfl dX5_take_41 ?_
  refine lv_iload_n hx hb dX5_take_44 rfl (lv_at hl 0 rfl) ?_
  refine lv_aload_n hx hb dX5_take_45 rfl (lv_at hl 2 rfl) ?_
  refine va_get (D := (dC, dI)) (ci := 5) (v := .ref b3) (C := RX5) (T := TX5) (N := 5) hx hb hq inX5 hown hK hP 1 rfl rfl 3 (by decide) (hq _ qw_311) (fun _ h9 => h9) rfl dX5_take_46 ?_
  refine lv_iload_n hx hb dX5_take_49 rfl (lv_at hl 0 rfl) ?_
  refine va_iald hx hb hK hP 8 6 rfl rfl (inr_ok rfl) dX5_take_50 ?_
  refine lv_topi (fun y_61 ey_61 => ?_)
  refine va_iast hx hb hK hP hD hS 4 2 rfl rfl (inr_ok rfl) dX5_take_51 (fun H locs hP hD hS => ?_)
  generalize upd f_54 (Int32.toNatClampNeg 7) y_61 = f_62 at hP hD
  have hP : va_P (dC, dI) classes [(h0, .inr (5, [.int 0, .ref a1, .ref a2, .ref a3, .ref a4])), (h1, .inr (5, [.int 0, .ref b1, .ref b2, .ref b3, .ref b4])), (a1, .inl (ka1, 10, .inl f_58)), (a2, .inl (ka2, 10, .inl f_60)), (a3, .inl (ka3, 10, .inl f_62)), (a4, .inl (ka4, 10, .inl f_56)), (b1, .inl (kb1, 10, .inl gb1)), (b2, .inl (kb2, 10, .inl gb2)), (b3, .inl (kb3, 10, .inl gb3)), (b4, .inl (kb4, 10, .inl gb4))] H := hP
  have hD : va_D A [(h0, .inr (5, [.int 0, .ref a1, .ref a2, .ref a3, .ref a4])), (h1, .inr (5, [.int 0, .ref b1, .ref b2, .ref b3, .ref b4])), (a1, .inl (ka1, 10, .inl f_58)), (a2, .inl (ka2, 10, .inl f_60)), (a3, .inl (ka3, 10, .inl f_62)), (a4, .inl (ka4, 10, .inl f_56)), (b1, .inl (kb1, 10, .inl gb1)), (b2, .inl (kb2, 10, .inl gb2)), (b3, .inl (kb3, 10, .inl gb3)), (b4, .inl (kb4, 10, .inl gb4))] := hD
  refine lv_aload_n hx hb dX5_take_52 rfl (lv_at hl 1 rfl) ?_
  refine va_get (D := (dC, dI)) (ci := 5) (v := .ref a4) (C := RX5) (T := TX5) (N := 5) hx hb hq inX5 hown hK hP 0 rfl rfl 4 (by decide) (hq _ qw_312) (fun _ h9 => h9) rfl dX5_take_53 ?_
  refine lv_iload_n hx hb dX5_take_56 rfl (lv_at hl 0 rfl) ?_
  refine lv_aload_n hx hb dX5_take_57 rfl (lv_at hl 2 rfl) ?_
  refine va_get (D := (dC, dI)) (ci := 5) (v := .ref b4) (C := RX5) (T := TX5) (N := 5) hx hb hq inX5 hown hK hP 1 rfl rfl 4 (by decide) (hq _ qw_312) (fun _ h9 => h9) rfl dX5_take_58 ?_
  refine lv_iload_n hx hb dX5_take_61 rfl (lv_at hl 0 rfl) ?_
  refine va_iald hx hb hK hP 9 7 rfl rfl (inr_ok rfl) dX5_take_62 ?_
  refine lv_topi (fun y_63 ey_63 => ?_)
  refine va_iast hx hb hK hP hD hS 5 3 rfl rfl (inr_ok rfl) dX5_take_63 (fun H locs hP hD hS => ?_)
  generalize upd f_56 (Int32.toNatClampNeg 7) y_63 = f_64 at hP hD
  have hP : va_P (dC, dI) classes [(h0, .inr (5, [.int 0, .ref a1, .ref a2, .ref a3, .ref a4])), (h1, .inr (5, [.int 0, .ref b1, .ref b2, .ref b3, .ref b4])), (a1, .inl (ka1, 10, .inl f_58)), (a2, .inl (ka2, 10, .inl f_60)), (a3, .inl (ka3, 10, .inl f_62)), (a4, .inl (ka4, 10, .inl f_64)), (b1, .inl (kb1, 10, .inl gb1)), (b2, .inl (kb2, 10, .inl gb2)), (b3, .inl (kb3, 10, .inl gb3)), (b4, .inl (kb4, 10, .inl gb4))] H := hP
  have hD : va_D A [(h0, .inr (5, [.int 0, .ref a1, .ref a2, .ref a3, .ref a4])), (h1, .inr (5, [.int 0, .ref b1, .ref b2, .ref b3, .ref b4])), (a1, .inl (ka1, 10, .inl f_58)), (a2, .inl (ka2, 10, .inl f_60)), (a3, .inl (ka3, 10, .inl f_62)), (a4, .inl (ka4, 10, .inl f_64)), (b1, .inl (kb1, 10, .inl gb1)), (b2, .inl (kb2, 10, .inl gb2)), (b3, .inl (kb3, 10, .inl gb3)), (b4, .inl (kb4, 10, .inl gb4))] := hD
  refine lv_iinc (v := 8) (lv' := [(2, .int 8), (0, .ref h0), (1, .ref h1)]) hx hb dX5_take_64 hl (k := 0) rfl (by decide) (by decide) rfl (fun ls hl => ?_)
  refine lv_goto (tgt := 10) hx hb dX5_take_67 (by decide) ?_
  refine lv_iload_n hx hb dX5_take_10 rfl (lv_at hl 0 rfl) ?_
  refine lv_bipush (v := 10) hx hb dX5_take_11 (by decide) ?_
  refine lv_icmp_ge (tgt := 70) hx hb dX5_take_13 (by decide) (fun c9 => absurd c9 (by decide)) (fun _ => ?_)
  refine lv_aload_n hx hb dX5_take_16 rfl (lv_at hl 1 rfl) ?_
  refine va_get (D := (dC, dI)) (ci := 5) (v := .ref a1) (C := RX5) (T := TX5) (N := 5) hx hb hq inX5 hown hK hP 0 rfl rfl 1 (by decide) (hq _ qw_309) (fun _ h9 => h9) rfl dX5_take_17 ?_
  refine lv_iload_n hx hb dX5_take_20 rfl (lv_at hl 0 rfl) ?_
  refine lv_aload_n hx hb dX5_take_21 rfl (lv_at hl 2 rfl) ?_
  refine va_get (D := (dC, dI)) (ci := 5) (v := .ref b1) (C := RX5) (T := TX5) (N := 5) hx hb hq inX5 hown hK hP 1 rfl rfl 1 (by decide) (hq _ qw_309) (fun _ h9 => h9) rfl dX5_take_22 ?_
  refine lv_iload_n hx hb dX5_take_25 rfl (lv_at hl 0 rfl) ?_
  refine va_iald hx hb hK hP 6 4 rfl rfl (inr_ok rfl) dX5_take_26 ?_
  refine lv_topi (fun y_65 ey_65 => ?_)
  refine va_iast hx hb hK hP hD hS 2 0 rfl rfl (inr_ok rfl) dX5_take_27 (fun H locs hP hD hS => ?_)
  generalize upd f_58 (Int32.toNatClampNeg 8) y_65 = f_66 at hP hD
  have hP : va_P (dC, dI) classes [(h0, .inr (5, [.int 0, .ref a1, .ref a2, .ref a3, .ref a4])), (h1, .inr (5, [.int 0, .ref b1, .ref b2, .ref b3, .ref b4])), (a1, .inl (ka1, 10, .inl f_66)), (a2, .inl (ka2, 10, .inl f_60)), (a3, .inl (ka3, 10, .inl f_62)), (a4, .inl (ka4, 10, .inl f_64)), (b1, .inl (kb1, 10, .inl gb1)), (b2, .inl (kb2, 10, .inl gb2)), (b3, .inl (kb3, 10, .inl gb3)), (b4, .inl (kb4, 10, .inl gb4))] H := hP
  have hD : va_D A [(h0, .inr (5, [.int 0, .ref a1, .ref a2, .ref a3, .ref a4])), (h1, .inr (5, [.int 0, .ref b1, .ref b2, .ref b3, .ref b4])), (a1, .inl (ka1, 10, .inl f_66)), (a2, .inl (ka2, 10, .inl f_60)), (a3, .inl (ka3, 10, .inl f_62)), (a4, .inl (ka4, 10, .inl f_64)), (b1, .inl (kb1, 10, .inl gb1)), (b2, .inl (kb2, 10, .inl gb2)), (b3, .inl (kb3, 10, .inl gb3)), (b4, .inl (kb4, 10, .inl gb4))] := hD
  refine lv_aload_n hx hb dX5_take_28 rfl (lv_at hl 1 rfl) ?_
  refine va_get (D := (dC, dI)) (ci := 5) (v := .ref a2) (C := RX5) (T := TX5) (N := 5) hx hb hq inX5 hown hK hP 0 rfl rfl 2 (by decide) (hq _ qw_310) (fun _ h9 => h9) rfl dX5_take_29 ?_
  refine lv_iload_n hx hb dX5_take_32 rfl (lv_at hl 0 rfl) ?_
  refine lv_aload_n hx hb dX5_take_33 rfl (lv_at hl 2 rfl) ?_
  refine va_get (D := (dC, dI)) (ci := 5) (v := .ref b2) (C := RX5) (T := TX5) (N := 5) hx hb hq inX5 hown hK hP 1 rfl rfl 2 (by decide) (hq _ qw_310) (fun _ h9 => h9) rfl dX5_take_34 ?_
  refine lv_iload_n hx hb dX5_take_37 rfl (lv_at hl 0 rfl) ?_
  refine va_iald hx hb hK hP 7 5 rfl rfl (inr_ok rfl) dX5_take_38 ?_
  refine lv_topi (fun y_67 ey_67 => ?_)
  refine va_iast hx hb hK hP hD hS 3 1 rfl rfl (inr_ok rfl) dX5_take_39 (fun H locs hP hD hS => ?_)
  generalize upd f_60 (Int32.toNatClampNeg 8) y_67 = f_68 at hP hD
  have hP : va_P (dC, dI) classes [(h0, .inr (5, [.int 0, .ref a1, .ref a2, .ref a3, .ref a4])), (h1, .inr (5, [.int 0, .ref b1, .ref b2, .ref b3, .ref b4])), (a1, .inl (ka1, 10, .inl f_66)), (a2, .inl (ka2, 10, .inl f_68)), (a3, .inl (ka3, 10, .inl f_62)), (a4, .inl (ka4, 10, .inl f_64)), (b1, .inl (kb1, 10, .inl gb1)), (b2, .inl (kb2, 10, .inl gb2)), (b3, .inl (kb3, 10, .inl gb3)), (b4, .inl (kb4, 10, .inl gb4))] H := hP
  have hD : va_D A [(h0, .inr (5, [.int 0, .ref a1, .ref a2, .ref a3, .ref a4])), (h1, .inr (5, [.int 0, .ref b1, .ref b2, .ref b3, .ref b4])), (a1, .inl (ka1, 10, .inl f_66)), (a2, .inl (ka2, 10, .inl f_68)), (a3, .inl (ka3, 10, .inl f_62)), (a4, .inl (ka4, 10, .inl f_64)), (b1, .inl (kb1, 10, .inl gb1)), (b2, .inl (kb2, 10, .inl gb2)), (b3, .inl (kb3, 10, .inl gb3)), (b4, .inl (kb4, 10, .inl gb4))] := hD
  refine lv_aload_n hx hb dX5_take_40 rfl (lv_at hl 1 rfl) ?_
  refine va_get (D := (dC, dI)) (ci := 5) (v := .ref a3) (C := RX5) (T := TX5) (N := 5) hx hb hq inX5 hown hK hP 0 rfl rfl 3 (by decide) (hq _ qw_311) (fun _ h9 => h9) rfl dX5_take_41 ?_
  refine lv_iload_n hx hb dX5_take_44 rfl (lv_at hl 0 rfl) ?_
  refine lv_aload_n hx hb dX5_take_45 rfl (lv_at hl 2 rfl) ?_
  refine va_get (D := (dC, dI)) (ci := 5) (v := .ref b3) (C := RX5) (T := TX5) (N := 5) hx hb hq inX5 hown hK hP 1 rfl rfl 3 (by decide) (hq _ qw_311) (fun _ h9 => h9) rfl dX5_take_46 ?_
  refine lv_iload_n hx hb dX5_take_49 rfl (lv_at hl 0 rfl) ?_
  refine va_iald hx hb hK hP 8 6 rfl rfl (inr_ok rfl) dX5_take_50 ?_
  refine lv_topi (fun y_69 ey_69 => ?_)
  refine va_iast hx hb hK hP hD hS 4 2 rfl rfl (inr_ok rfl) dX5_take_51 (fun H locs hP hD hS => ?_)
  generalize upd f_62 (Int32.toNatClampNeg 8) y_69 = f_70 at hP hD
  have hP : va_P (dC, dI) classes [(h0, .inr (5, [.int 0, .ref a1, .ref a2, .ref a3, .ref a4])), (h1, .inr (5, [.int 0, .ref b1, .ref b2, .ref b3, .ref b4])), (a1, .inl (ka1, 10, .inl f_66)), (a2, .inl (ka2, 10, .inl f_68)), (a3, .inl (ka3, 10, .inl f_70)), (a4, .inl (ka4, 10, .inl f_64)), (b1, .inl (kb1, 10, .inl gb1)), (b2, .inl (kb2, 10, .inl gb2)), (b3, .inl (kb3, 10, .inl gb3)), (b4, .inl (kb4, 10, .inl gb4))] H := hP
  have hD : va_D A [(h0, .inr (5, [.int 0, .ref a1, .ref a2, .ref a3, .ref a4])), (h1, .inr (5, [.int 0, .ref b1, .ref b2, .ref b3, .ref b4])), (a1, .inl (ka1, 10, .inl f_66)), (a2, .inl (ka2, 10, .inl f_68)), (a3, .inl (ka3, 10, .inl f_70)), (a4, .inl (ka4, 10, .inl f_64)), (b1, .inl (kb1, 10, .inl gb1)), (b2, .inl (kb2, 10, .inl gb2)), (b3, .inl (kb3, 10, .inl gb3)), (b4, .inl (kb4, 10, .inl gb4))] := hD
  refine lv_aload_n hx hb dX5_take_52 rfl (lv_at hl 1 rfl) ?_
  refine va_get (D := (dC, dI)) (ci := 5) (v := .ref a4) (C := RX5) (T := TX5) (N := 5) hx hb hq inX5 hown hK hP 0 rfl rfl 4 (by decide) (hq _ qw_312) (fun _ h9 => h9) rfl dX5_take_53 ?_
  refine lv_iload_n hx hb dX5_take_56 rfl (lv_at hl 0 rfl) ?_
  refine lv_aload_n hx hb dX5_take_57 rfl (lv_at hl 2 rfl) ?_
  refine va_get (D := (dC, dI)) (ci := 5) (v := .ref b4) (C := RX5) (T := TX5) (N := 5) hx hb hq inX5 hown hK hP 1 rfl rfl 4 (by decide) (hq _ qw_312) (fun _ h9 => h9) rfl dX5_take_58 ?_
  refine lv_iload_n hx hb dX5_take_61 rfl (lv_at hl 0 rfl) ?_
  refine va_iald hx hb hK hP 9 7 rfl rfl (inr_ok rfl) dX5_take_62 ?_
  refine lv_topi (fun y_71 ey_71 => ?_)
  refine va_iast hx hb hK hP hD hS 5 3 rfl rfl (inr_ok rfl) dX5_take_63 (fun H locs hP hD hS => ?_)
  generalize upd f_64 (Int32.toNatClampNeg 8) y_71 = f_72 at hP hD
  have hP : va_P (dC, dI) classes [(h0, .inr (5, [.int 0, .ref a1, .ref a2, .ref a3, .ref a4])), (h1, .inr (5, [.int 0, .ref b1, .ref b2, .ref b3, .ref b4])), (a1, .inl (ka1, 10, .inl f_66)), (a2, .inl (ka2, 10, .inl f_68)), (a3, .inl (ka3, 10, .inl f_70)), (a4, .inl (ka4, 10, .inl f_72)), (b1, .inl (kb1, 10, .inl gb1)), (b2, .inl (kb2, 10, .inl gb2)), (b3, .inl (kb3, 10, .inl gb3)), (b4, .inl (kb4, 10, .inl gb4))] H := hP
  have hD : va_D A [(h0, .inr (5, [.int 0, .ref a1, .ref a2, .ref a3, .ref a4])), (h1, .inr (5, [.int 0, .ref b1, .ref b2, .ref b3, .ref b4])), (a1, .inl (ka1, 10, .inl f_66)), (a2, .inl (ka2, 10, .inl f_68)), (a3, .inl (ka3, 10, .inl f_70)), (a4, .inl (ka4, 10, .inl f_72)), (b1, .inl (kb1, 10, .inl gb1)), (b2, .inl (kb2, 10, .inl gb2)), (b3, .inl (kb3, 10, .inl gb3)), (b4, .inl (kb4, 10, .inl gb4))] := hD
  refine lv_iinc (v := 9) (lv' := [(2, .int 9), (0, .ref h0), (1, .ref h1)]) hx hb dX5_take_64 hl (k := 0) rfl (by decide) (by decide) rfl (fun ls hl => ?_)
  refine lv_goto (tgt := 10) hx hb dX5_take_67 (by decide) ?_
  refine lv_iload_n hx hb dX5_take_10 rfl (lv_at hl 0 rfl) ?_
  refine lv_bipush (v := 10) hx hb dX5_take_11 (by decide) ?_
  refine lv_icmp_ge (tgt := 70) hx hb dX5_take_13 (by decide) (fun c9 => absurd c9 (by decide)) (fun _ => ?_)
  refine lv_aload_n hx hb dX5_take_16 rfl (lv_at hl 1 rfl) ?_
  refine va_get (D := (dC, dI)) (ci := 5) (v := .ref a1) (C := RX5) (T := TX5) (N := 5) hx hb hq inX5 hown hK hP 0 rfl rfl 1 (by decide) (hq _ qw_309) (fun _ h9 => h9) rfl dX5_take_17 ?_
  refine lv_iload_n hx hb dX5_take_20 rfl (lv_at hl 0 rfl) ?_
  refine lv_aload_n hx hb dX5_take_21 rfl (lv_at hl 2 rfl) ?_
  refine va_get (D := (dC, dI)) (ci := 5) (v := .ref b1) (C := RX5) (T := TX5) (N := 5) hx hb hq inX5 hown hK hP 1 rfl rfl 1 (by decide) (hq _ qw_309) (fun _ h9 => h9) rfl dX5_take_22 ?_
  refine lv_iload_n hx hb dX5_take_25 rfl (lv_at hl 0 rfl) ?_
  refine va_iald hx hb hK hP 6 4 rfl rfl (inr_ok rfl) dX5_take_26 ?_
  refine lv_topi (fun y_73 ey_73 => ?_)
  refine va_iast hx hb hK hP hD hS 2 0 rfl rfl (inr_ok rfl) dX5_take_27 (fun H locs hP hD hS => ?_)
  generalize upd f_66 (Int32.toNatClampNeg 9) y_73 = f_74 at hP hD
  have hP : va_P (dC, dI) classes [(h0, .inr (5, [.int 0, .ref a1, .ref a2, .ref a3, .ref a4])), (h1, .inr (5, [.int 0, .ref b1, .ref b2, .ref b3, .ref b4])), (a1, .inl (ka1, 10, .inl f_74)), (a2, .inl (ka2, 10, .inl f_68)), (a3, .inl (ka3, 10, .inl f_70)), (a4, .inl (ka4, 10, .inl f_72)), (b1, .inl (kb1, 10, .inl gb1)), (b2, .inl (kb2, 10, .inl gb2)), (b3, .inl (kb3, 10, .inl gb3)), (b4, .inl (kb4, 10, .inl gb4))] H := hP
  have hD : va_D A [(h0, .inr (5, [.int 0, .ref a1, .ref a2, .ref a3, .ref a4])), (h1, .inr (5, [.int 0, .ref b1, .ref b2, .ref b3, .ref b4])), (a1, .inl (ka1, 10, .inl f_74)), (a2, .inl (ka2, 10, .inl f_68)), (a3, .inl (ka3, 10, .inl f_70)), (a4, .inl (ka4, 10, .inl f_72)), (b1, .inl (kb1, 10, .inl gb1)), (b2, .inl (kb2, 10, .inl gb2)), (b3, .inl (kb3, 10, .inl gb3)), (b4, .inl (kb4, 10, .inl gb4))] := hD
  refine lv_aload_n hx hb dX5_take_28 rfl (lv_at hl 1 rfl) ?_
  refine va_get (D := (dC, dI)) (ci := 5) (v := .ref a2) (C := RX5) (T := TX5) (N := 5) hx hb hq inX5 hown hK hP 0 rfl rfl 2 (by decide) (hq _ qw_310) (fun _ h9 => h9) rfl dX5_take_29 ?_
  refine lv_iload_n hx hb dX5_take_32 rfl (lv_at hl 0 rfl) ?_
  refine lv_aload_n hx hb dX5_take_33 rfl (lv_at hl 2 rfl) ?_
  refine va_get (D := (dC, dI)) (ci := 5) (v := .ref b2) (C := RX5) (T := TX5) (N := 5) hx hb hq inX5 hown hK hP 1 rfl rfl 2 (by decide) (hq _ qw_310) (fun _ h9 => h9) rfl dX5_take_34 ?_
  refine lv_iload_n hx hb dX5_take_37 rfl (lv_at hl 0 rfl) ?_
  refine va_iald hx hb hK hP 7 5 rfl rfl (inr_ok rfl) dX5_take_38 ?_
  refine lv_topi (fun y_75 ey_75 => ?_)
  refine va_iast hx hb hK hP hD hS 3 1 rfl rfl (inr_ok rfl) dX5_take_39 (fun H locs hP hD hS => ?_)
  generalize upd f_68 (Int32.toNatClampNeg 9) y_75 = f_76 at hP hD
  have hP : va_P (dC, dI) classes [(h0, .inr (5, [.int 0, .ref a1, .ref a2, .ref a3, .ref a4])), (h1, .inr (5, [.int 0, .ref b1, .ref b2, .ref b3, .ref b4])), (a1, .inl (ka1, 10, .inl f_74)), (a2, .inl (ka2, 10, .inl f_76)), (a3, .inl (ka3, 10, .inl f_70)), (a4, .inl (ka4, 10, .inl f_72)), (b1, .inl (kb1, 10, .inl gb1)), (b2, .inl (kb2, 10, .inl gb2)), (b3, .inl (kb3, 10, .inl gb3)), (b4, .inl (kb4, 10, .inl gb4))] H := hP
  have hD : va_D A [(h0, .inr (5, [.int 0, .ref a1, .ref a2, .ref a3, .ref a4])), (h1, .inr (5, [.int 0, .ref b1, .ref b2, .ref b3, .ref b4])), (a1, .inl (ka1, 10, .inl f_74)), (a2, .inl (ka2, 10, .inl f_76)), (a3, .inl (ka3, 10, .inl f_70)), (a4, .inl (ka4, 10, .inl f_72)), (b1, .inl (kb1, 10, .inl gb1)), (b2, .inl (kb2, 10, .inl gb2)), (b3, .inl (kb3, 10, .inl gb3)), (b4, .inl (kb4, 10, .inl gb4))] := hD
  refine lv_aload_n hx hb dX5_take_40 rfl (lv_at hl 1 rfl) ?_
  refine va_get (D := (dC, dI)) (ci := 5) (v := .ref a3) (C := RX5) (T := TX5) (N := 5) hx hb hq inX5 hown hK hP 0 rfl rfl 3 (by decide) (hq _ qw_311) (fun _ h9 => h9) rfl dX5_take_41 ?_
  refine lv_iload_n hx hb dX5_take_44 rfl (lv_at hl 0 rfl) ?_
  refine lv_aload_n hx hb dX5_take_45 rfl (lv_at hl 2 rfl) ?_
  refine va_get (D := (dC, dI)) (ci := 5) (v := .ref b3) (C := RX5) (T := TX5) (N := 5) hx hb hq inX5 hown hK hP 1 rfl rfl 3 (by decide) (hq _ qw_311) (fun _ h9 => h9) rfl dX5_take_46 ?_
  refine lv_iload_n hx hb dX5_take_49 rfl (lv_at hl 0 rfl) ?_
  refine va_iald hx hb hK hP 8 6 rfl rfl (inr_ok rfl) dX5_take_50 ?_
  refine lv_topi (fun y_77 ey_77 => ?_)
  refine va_iast hx hb hK hP hD hS 4 2 rfl rfl (inr_ok rfl) dX5_take_51 (fun H locs hP hD hS => ?_)
  generalize upd f_70 (Int32.toNatClampNeg 9) y_77 = f_78 at hP hD
  have hP : va_P (dC, dI) classes [(h0, .inr (5, [.int 0, .ref a1, .ref a2, .ref a3, .ref a4])), (h1, .inr (5, [.int 0, .ref b1, .ref b2, .ref b3, .ref b4])), (a1, .inl (ka1, 10, .inl f_74)), (a2, .inl (ka2, 10, .inl f_76)), (a3, .inl (ka3, 10, .inl f_78)), (a4, .inl (ka4, 10, .inl f_72)), (b1, .inl (kb1, 10, .inl gb1)), (b2, .inl (kb2, 10, .inl gb2)), (b3, .inl (kb3, 10, .inl gb3)), (b4, .inl (kb4, 10, .inl gb4))] H := hP
  have hD : va_D A [(h0, .inr (5, [.int 0, .ref a1, .ref a2, .ref a3, .ref a4])), (h1, .inr (5, [.int 0, .ref b1, .ref b2, .ref b3, .ref b4])), (a1, .inl (ka1, 10, .inl f_74)), (a2, .inl (ka2, 10, .inl f_76)), (a3, .inl (ka3, 10, .inl f_78)), (a4, .inl (ka4, 10, .inl f_72)), (b1, .inl (kb1, 10, .inl gb1)), (b2, .inl (kb2, 10, .inl gb2)), (b3, .inl (kb3, 10, .inl gb3)), (b4, .inl (kb4, 10, .inl gb4))] := hD
  refine lv_aload_n hx hb dX5_take_52 rfl (lv_at hl 1 rfl) ?_
  refine va_get (D := (dC, dI)) (ci := 5) (v := .ref a4) (C := RX5) (T := TX5) (N := 5) hx hb hq inX5 hown hK hP 0 rfl rfl 4 (by decide) (hq _ qw_312) (fun _ h9 => h9) rfl dX5_take_53 ?_
  refine lv_iload_n hx hb dX5_take_56 rfl (lv_at hl 0 rfl) ?_
  refine lv_aload_n hx hb dX5_take_57 rfl (lv_at hl 2 rfl) ?_
  refine va_get (D := (dC, dI)) (ci := 5) (v := .ref b4) (C := RX5) (T := TX5) (N := 5) hx hb hq inX5 hown hK hP 1 rfl rfl 4 (by decide) (hq _ qw_312) (fun _ h9 => h9) rfl dX5_take_58 ?_
  refine lv_iload_n hx hb dX5_take_61 rfl (lv_at hl 0 rfl) ?_
  refine va_iald hx hb hK hP 9 7 rfl rfl (inr_ok rfl) dX5_take_62 ?_
  refine lv_topi (fun y_79 ey_79 => ?_)
  refine va_iast hx hb hK hP hD hS 5 3 rfl rfl (inr_ok rfl) dX5_take_63 (fun H locs hP hD hS => ?_)
  generalize upd f_72 (Int32.toNatClampNeg 9) y_79 = f_80 at hP hD
  have hP : va_P (dC, dI) classes [(h0, .inr (5, [.int 0, .ref a1, .ref a2, .ref a3, .ref a4])), (h1, .inr (5, [.int 0, .ref b1, .ref b2, .ref b3, .ref b4])), (a1, .inl (ka1, 10, .inl f_74)), (a2, .inl (ka2, 10, .inl f_76)), (a3, .inl (ka3, 10, .inl f_78)), (a4, .inl (ka4, 10, .inl f_80)), (b1, .inl (kb1, 10, .inl gb1)), (b2, .inl (kb2, 10, .inl gb2)), (b3, .inl (kb3, 10, .inl gb3)), (b4, .inl (kb4, 10, .inl gb4))] H := hP
  have hD : va_D A [(h0, .inr (5, [.int 0, .ref a1, .ref a2, .ref a3, .ref a4])), (h1, .inr (5, [.int 0, .ref b1, .ref b2, .ref b3, .ref b4])), (a1, .inl (ka1, 10, .inl f_74)), (a2, .inl (ka2, 10, .inl f_76)), (a3, .inl (ka3, 10, .inl f_78)), (a4, .inl (ka4, 10, .inl f_80)), (b1, .inl (kb1, 10, .inl gb1)), (b2, .inl (kb2, 10, .inl gb2)), (b3, .inl (kb3, 10, .inl gb3)), (b4, .inl (kb4, 10, .inl gb4))] := hD
  refine lv_iinc (v := 10) (lv' := [(2, .int 10), (0, .ref h0), (1, .ref h1)]) hx hb dX5_take_64 hl (k := 0) rfl (by decide) (by decide) rfl (fun ls hl => ?_)
  refine lv_goto (tgt := 10) hx hb dX5_take_67 (by decide) ?_
  refine lv_iload_n hx hb dX5_take_10 rfl (lv_at hl 0 rfl) ?_
  refine lv_bipush (v := 10) hx hb dX5_take_11 (by decide) ?_
  refine lv_icmp_ge (tgt := 70) hx hb dX5_take_13 (by decide) (fun _ => ?_) (fun c9 => absurd c9 (by decide))
  have hP9 := hP.sub (ws' := [(h0, .inr (5, [.int 0, .ref a1, .ref a2, .ref a3, .ref a4])), (h1, .inr (5, [.int 0, .ref b1, .ref b2, .ref b3, .ref b4])), (a1, .inl (ka1, 10, .inl f_74)), (a2, .inl (ka2, 10, .inl f_76)), (a3, .inl (ka3, 10, .inl f_78)), (a4, .inl (ka4, 10, .inl f_80)), (b1, .inl (kb1, 10, .inl gb1)), (b2, .inl (kb2, 10, .inl gb2)), (b3, .inl (kb3, 10, .inl gb3)), (b4, .inl (kb4, 10, .inl gb4))]) [0, 1, 2, 3, 4, 5, 6, 7, 8, 9] rfl
  have hD9 := hD.sub (ws' := [(h0, .inr (5, [.int 0, .ref a1, .ref a2, .ref a3, .ref a4])), (h1, .inr (5, [.int 0, .ref b1, .ref b2, .ref b3, .ref b4])), (a1, .inl (ka1, 10, .inl f_74)), (a2, .inl (ka2, 10, .inl f_76)), (a3, .inl (ka3, 10, .inl f_78)), (a4, .inl (ka4, 10, .inl f_80)), (b1, .inl (kb1, 10, .inl gb1)), (b2, .inl (kb2, 10, .inl gb2)), (b3, .inl (kb3, 10, .inl gb3)), (b4, .inl (kb4, 10, .inl gb4))]) [0, 1, 2, 3, 4, 5, 6, 7, 8, 9] (by decide) rfl
  have hK9 := hK.sub (tys' := [(ka1, .int), (ka2, .int), (ka3, .int), (ka4, .int), (kb1, .int), (kb2, .int), (kb3, .int), (kb4, .int)]) [0, 1, 2, 3, 4, 5, 6, 7] rfl
  refine W.widen (k := 0) (n := 0) (Nat.le_of_ble_eq_true rfl) (Nat.le_of_ble_eq_true rfl) ?_
  exact W.vret hx hb hr (fun t ht hW => ⟨⟨(), rfl, trivial, f_74, f_76, f_78, f_80, by rw [ht]; exact hP9, va_K.moved hW.alike hK9, hD9⟩, hS.F ht⟩) hS.2.2 dX5_take_70
