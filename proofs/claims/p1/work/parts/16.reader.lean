theorem qw_1 : (.selects RX7 yX7_byteAt yX7_byteAt : Cond) ∈ wsA := mA (i := 1) (by decide +kernel) rfl
theorem qw_132 : (.initialized RJ9 : Cond) ∈ wsA := mA (i := 132) (by decide +kernel) rfl
theorem qw_160 : (.fieldLink RX7 21 "SpokenBite$Reade\x72" "length" "I" : Cond) ∈ wsA := mA (i := 160) (by decide +kernel) rfl
theorem qw_161 : (.fieldLink RX7 25 "SpokenBite$Reade\x72" "place" "I" : Cond) ∈ wsA := mA (i := 161) (by decide +kernel) rfl
theorem qw_164 : (.fieldLink RX7 28 "SpokenBite$Reade\x72" "fault" "I" : Cond) ∈ wsA := mA (i := 164) (by decide +kernel) rfl
theorem qw_531 : (.methodLink RX7 15 Lib.Math.min.name : Cond) ∈ wsA := mA (i := 531) (by decide +kernel) rfl
theorem qw_532 : (.static Lib.Math.min.name : Cond) ∈ wsA := mA (i := 532) (by decide +kernel) rfl
theorem qw_533 : (.code Lib.Math.min.name Lib.Math.min.code 2 (some .int) : Cond) ∈ wsA := mA (i := 533) (by decide +kernel) rfl
theorem qw_539 : (.instanceMethod yX7_sign : Cond) ∈ wsA := mA (i := 539) (by decide +kernel) rfl
theorem qw_540 : (.selects RX7 yX7_sign yX7_sign : Cond) ∈ wsA := mA (i := 540) (by decide +kernel) rfl
theorem qw_541 : (.code yX7_sign cX7_sign 2 (some .int) : Cond) ∈ wsA := mA (i := 541) (by decide +kernel) rfl
theorem qw_542 : (.methodLink RX7 31 yX7_byteAt : Cond) ∈ wsA := mA (i := 542) (by decide +kernel) rfl
theorem qw_544 : (.instanceMethod yX7_byteAt : Cond) ∈ wsA := mA (i := 544) (by decide +kernel) rfl
theorem qw_545 : (.code yX7_byteAt cX7_byteAt 2 (some .int) : Cond) ∈ wsA := mA (i := 545) (by decide +kernel) rfl
theorem qw_551 : (.methodLink RX7 35 yJ0_length_8abf5 : Cond) ∈ wsA := mA (i := 551) (by decide +kernel) rfl
theorem qw_552 : (.instanceMethod yJ0_length_8abf5 : Cond) ∈ wsA := mA (i := 552) (by decide +kernel) rfl
theorem qw_553 : (.selects RJ0 yJ0_length_8abf5 yJ0_length_8abf5 : Cond) ∈ wsA := mA (i := 553) (by decide +kernel) rfl
theorem qw_554 : (.code yJ0_length_8abf5 cJ0_length_8abf5 1 (some .int) : Cond) ∈ wsA := mA (i := 554) (by decide +kernel) rfl
theorem qw_561 : (.methodLink RX7 40 yJ0_charAt_5068e : Cond) ∈ wsA := mA (i := 561) (by decide +kernel) rfl
theorem qw_562 : (.instanceMethod yJ0_charAt_5068e : Cond) ∈ wsA := mA (i := 562) (by decide +kernel) rfl
theorem qw_563 : (.selects RJ0 yJ0_charAt_5068e yJ0_charAt_5068e : Cond) ∈ wsA := mA (i := 563) (by decide +kernel) rfl
theorem qw_564 : (.code yJ0_charAt_5068e cJ0_charAt_5068e 2 (some .char) : Cond) ∈ wsA := mA (i := 564) (by decide +kernel) rfl
theorem qw_645 : (.methodLink RX7 55 yX7_sign : Cond) ∈ wsA := mA (i := 645) (by decide +kernel) rfl
theorem dX7_blame_0 : decode cX7_blame 0 = .ok (.aload_n 0, 1) := by decide +kernel
theorem dX7_blame_1 : decode cX7_blame 1 = .ok (.getfield 28, 3) := by decide +kernel
theorem dX7_blame_4 : decode cX7_blame 4 = .ok (.ifCond .ne 15, 3) := by decide +kernel
theorem dX7_blame_7 : decode cX7_blame 7 = .ok (.aload_n 0, 1) := by decide +kernel
theorem dX7_blame_8 : decode cX7_blame 8 = .ok (.iconst 1, 1) := by decide +kernel
theorem dX7_blame_9 : decode cX7_blame 9 = .ok (.bipush 8, 2) := by decide +kernel
theorem dX7_blame_11 : decode cX7_blame 11 = .ok (.iload_n 1, 1) := by decide +kernel
theorem dX7_blame_12 : decode cX7_blame 12 = .ok (.imul, 1) := by decide +kernel
theorem dX7_blame_13 : decode cX7_blame 13 = .ok (.iadd, 1) := by decide +kernel
theorem dX7_blame_14 : decode cX7_blame 14 = .ok (.iload_n 2, 1) := by decide +kernel
theorem dX7_blame_15 : decode cX7_blame 15 = .ok (.iadd, 1) := by decide +kernel
theorem dX7_blame_16 : decode cX7_blame 16 = .ok (.putfield 28, 3) := by decide +kernel
theorem dX7_blame_19 : decode cX7_blame 19 = .ok (.return_, 1) := by decide +kernel
theorem dX7_byteAt_0 : decode cX7_byteAt 0 = .ok (.iload_n 1, 1) := by decide +kernel
theorem dX7_byteAt_1 : decode cX7_byteAt 1 = .ok (.ifCond .lt 29, 3) := by decide +kernel
theorem dX7_byteAt_4 : decode cX7_byteAt 4 = .ok (.iload_n 1, 1) := by decide +kernel
theorem dX7_byteAt_5 : decode cX7_byteAt 5 = .ok (.aload_n 0, 1) := by decide +kernel
theorem dX7_byteAt_6 : decode cX7_byteAt 6 = .ok (.getfield 21, 3) := by decide +kernel
theorem dX7_byteAt_9 : decode cX7_byteAt 9 = .ok (.if_icmp .ge 21, 3) := by decide +kernel
theorem dX7_byteAt_30 : decode cX7_byteAt 30 = .ok (.iconst (-1), 1) := by decide +kernel
theorem dX7_byteAt_31 : decode cX7_byteAt 31 = .ok (.ireturn, 1) := by decide +kernel
theorem dX7_goesOn_0 : decode cX7_goesOn 0 = .ok (.aload_n 0, 1) := by decide +kernel
theorem dX7_goesOn_1 : decode cX7_goesOn 1 = .ok (.invokevirtual 55, 3) := by decide +kernel
theorem dX7_goesOn_4 : decode cX7_goesOn 4 = .ok (.istore_n 1, 1) := by decide +kernel
theorem dX7_goesOn_5 : decode cX7_goesOn 5 = .ok (.aload_n 0, 1) := by decide +kernel
theorem dX7_goesOn_6 : decode cX7_goesOn 6 = .ok (.getfield 28, 3) := by decide +kernel
theorem dX7_goesOn_9 : decode cX7_goesOn 9 = .ok (.ifCond .ne 8, 3) := by decide +kernel
theorem dX7_goesOn_17 : decode cX7_goesOn 17 = .ok (.iconst 0, 1) := by decide +kernel
theorem dX7_goesOn_18 : decode cX7_goesOn 18 = .ok (.ireturn, 1) := by decide +kernel
theorem dX7_open_0 : decode cX7_open 0 = .ok (.aload_n 0, 1) := by decide +kernel
theorem dX7_open_1 : decode cX7_open 1 = .ok (.aload_n 1, 1) := by decide +kernel
theorem dX7_open_2 : decode cX7_open 2 = .ok (.putfield 9, 3) := by decide +kernel
theorem dX7_open_5 : decode cX7_open 5 = .ok (.aload_n 0, 1) := by decide +kernel
theorem dX7_open_6 : decode cX7_open 6 = .ok (.iload_n 2, 1) := by decide +kernel
theorem dX7_open_7 : decode cX7_open 7 = .ok (.aload_n 1, 1) := by decide +kernel
theorem dX7_open_8 : decode cX7_open 8 = .ok (.arraylength, 1) := by decide +kernel
theorem dX7_open_9 : decode cX7_open 9 = .ok (.invokestatic 15, 3) := by decide +kernel
theorem dX7_open_12 : decode cX7_open 12 = .ok (.putfield 21, 3) := by decide +kernel
theorem dX7_open_15 : decode cX7_open 15 = .ok (.aload_n 0, 1) := by decide +kernel
theorem dX7_open_16 : decode cX7_open 16 = .ok (.iconst 0, 1) := by decide +kernel
theorem dX7_open_17 : decode cX7_open 17 = .ok (.putfield 25, 3) := by decide +kernel
theorem dX7_open_20 : decode cX7_open 20 = .ok (.aload_n 0, 1) := by decide +kernel
theorem dX7_open_21 : decode cX7_open 21 = .ok (.iconst 0, 1) := by decide +kernel
theorem dX7_open_22 : decode cX7_open 22 = .ok (.putfield 28, 3) := by decide +kernel
theorem dX7_open_25 : decode cX7_open 25 = .ok (.return_, 1) := by decide +kernel
theorem dX7_sign_0 : decode cX7_sign 0 = .ok (.iconst 0, 1) := by decide +kernel
theorem dX7_sign_1 : decode cX7_sign 1 = .ok (.istore_n 1, 1) := by decide +kernel
theorem dX7_sign_2 : decode cX7_sign 2 = .ok (.iload_n 1, 1) := by decide +kernel
theorem dX7_sign_3 : decode cX7_sign 3 = .ok (.sipush 400, 3) := by decide +kernel
theorem dX7_sign_6 : decode cX7_sign 6 = .ok (.if_icmp .ge 32, 3) := by decide +kernel
theorem dX7_sign_9 : decode cX7_sign 9 = .ok (.aload_n 0, 1) := by decide +kernel
theorem dX7_sign_10 : decode cX7_sign 10 = .ok (.aload_n 0, 1) := by decide +kernel
theorem dX7_sign_11 : decode cX7_sign 11 = .ok (.getfield 25, 3) := by decide +kernel
theorem dX7_sign_14 : decode cX7_sign 14 = .ok (.invokevirtual 31, 3) := by decide +kernel
theorem dX7_sign_17 : decode cX7_sign 17 = .ok (.bipush 32, 2) := by decide +kernel
theorem dX7_sign_19 : decode cX7_sign 19 = .ok (.if_icmp .ne 19, 3) := by decide +kernel
theorem dX7_sign_38 : decode cX7_sign 38 = .ok (.aload_n 0, 1) := by decide +kernel
theorem dX7_sign_39 : decode cX7_sign 39 = .ok (.aload_n 0, 1) := by decide +kernel
theorem dX7_sign_40 : decode cX7_sign 40 = .ok (.getfield 25, 3) := by decide +kernel
theorem dX7_sign_43 : decode cX7_sign 43 = .ok (.invokevirtual 31, 3) := by decide +kernel
theorem dX7_sign_46 : decode cX7_sign 46 = .ok (.ireturn, 1) := by decide +kernel
theorem dX7_wordAmong_0 : decode cX7_wordAmong 0 = .ok (.iconst 0, 1) := by decide +kernel
theorem dX7_wordAmong_1 : decode cX7_wordAmong 1 = .ok (.istore_n 2, 1) := by decide +kernel
theorem dX7_wordAmong_2 : decode cX7_wordAmong 2 = .ok (.iconst 0, 1) := by decide +kernel
theorem dX7_wordAmong_3 : decode cX7_wordAmong 3 = .ok (.istore_n 3, 1) := by decide +kernel
theorem dX7_wordAmong_4 : decode cX7_wordAmong 4 = .ok (.iconst 1, 1) := by decide +kernel
theorem dX7_wordAmong_5 : decode cX7_wordAmong 5 = .ok (.istore 4, 2) := by decide +kernel
theorem dX7_wordAmong_7 : decode cX7_wordAmong 7 = .ok (.iconst 0, 1) := by decide +kernel
theorem dX7_wordAmong_8 : decode cX7_wordAmong 8 = .ok (.istore 5, 2) := by decide +kernel
theorem dX7_wordAmong_10 : decode cX7_wordAmong 10 = .ok (.iload 5, 2) := by decide +kernel
theorem dX7_wordAmong_12 : decode cX7_wordAmong 12 = .ok (.aload_n 1, 1) := by decide +kernel
theorem dX7_wordAmong_13 : decode cX7_wordAmong 13 = .ok (.invokevirtual 35, 3) := by decide +kernel
theorem dX7_wordAmong_16 : decode cX7_wordAmong 16 = .ok (.if_icmp .ge 88, 3) := by decide +kernel
theorem dX7_wordAmong_19 : decode cX7_wordAmong 19 = .ok (.aload_n 1, 1) := by decide +kernel
theorem dX7_wordAmong_20 : decode cX7_wordAmong 20 = .ok (.iload 5, 2) := by decide +kernel
theorem dX7_wordAmong_22 : decode cX7_wordAmong 22 = .ok (.invokevirtual 40, 3) := by decide +kernel
theorem dX7_wordAmong_25 : decode cX7_wordAmong 25 = .ok (.istore 6, 2) := by decide +kernel
theorem dX7_wordAmong_27 : decode cX7_wordAmong 27 = .ok (.iload 6, 2) := by decide +kernel
theorem dX7_wordAmong_29 : decode cX7_wordAmong 29 = .ok (.bipush 32, 2) := by decide +kernel
theorem dX7_wordAmong_31 : decode cX7_wordAmong 31 = .ok (.if_icmp .eq 36, 3) := by decide +kernel
theorem dX7_wordAmong_34 : decode cX7_wordAmong 34 = .ok (.iload 4, 2) := by decide +kernel
theorem dX7_wordAmong_36 : decode cX7_wordAmong 36 = .ok (.ifCond .eq 22, 3) := by decide +kernel
theorem dX7_wordAmong_39 : decode cX7_wordAmong 39 = .ok (.aload_n 0, 1) := by decide +kernel
theorem dX7_wordAmong_40 : decode cX7_wordAmong 40 = .ok (.aload_n 0, 1) := by decide +kernel
theorem dX7_wordAmong_41 : decode cX7_wordAmong 41 = .ok (.getfield 25, 3) := by decide +kernel
theorem dX7_wordAmong_44 : decode cX7_wordAmong 44 = .ok (.iload_n 3, 1) := by decide +kernel
theorem dX7_wordAmong_45 : decode cX7_wordAmong 45 = .ok (.iadd, 1) := by decide +kernel
theorem dX7_wordAmong_46 : decode cX7_wordAmong 46 = .ok (.invokevirtual 31, 3) := by decide +kernel
theorem dX7_wordAmong_49 : decode cX7_wordAmong 49 = .ok (.iload 6, 2) := by decide +kernel
theorem dX7_wordAmong_51 : decode cX7_wordAmong 51 = .ok (.if_icmp .ne 7, 3) := by decide +kernel
theorem dX7_wordAmong_58 : decode cX7_wordAmong 58 = .ok (.iconst 0, 1) := by decide +kernel
theorem dX7_wordAmong_59 : decode cX7_wordAmong 59 = .ok (.istore 4, 2) := by decide +kernel
theorem dX7_wordAmong_61 : decode cX7_wordAmong 61 = .ok (.iinc 3 1, 3) := by decide +kernel
theorem dX7_wordAmong_64 : decode cX7_wordAmong 64 = .ok (.goto 34, 3) := by decide +kernel
theorem dX7_wordAmong_67 : decode cX7_wordAmong 67 = .ok (.iload 4, 2) := by decide +kernel
theorem dX7_wordAmong_69 : decode cX7_wordAmong 69 = .ok (.ifCond .eq 21, 3) := by decide +kernel
theorem dX7_wordAmong_90 : decode cX7_wordAmong 90 = .ok (.iinc 2 1, 3) := by decide +kernel
theorem dX7_wordAmong_93 : decode cX7_wordAmong 93 = .ok (.iconst 0, 1) := by decide +kernel
theorem dX7_wordAmong_94 : decode cX7_wordAmong 94 = .ok (.istore_n 3, 1) := by decide +kernel
theorem dX7_wordAmong_95 : decode cX7_wordAmong 95 = .ok (.iconst 1, 1) := by decide +kernel
theorem dX7_wordAmong_96 : decode cX7_wordAmong 96 = .ok (.istore 4, 2) := by decide +kernel
theorem dX7_wordAmong_98 : decode cX7_wordAmong 98 = .ok (.iinc 5 1, 3) := by decide +kernel
theorem dX7_wordAmong_101 : decode cX7_wordAmong 101 = .ok (.goto (-91), 3) := by decide +kernel
theorem dX7_wordAmong_104 : decode cX7_wordAmong 104 = .ok (.iconst (-1), 1) := by decide +kernel
theorem dX7_wordAmong_105 : decode cX7_wordAmong 105 = .ok (.ireturn, 1) := by decide +kernel
set_option maxHeartbeats 4000000 in
set_option maxRecDepth 100000 in
/-- c_Rd_byteAt -/
theorem c_Rd_byteAt (l : Launch) (dC : Nat → ClassId) (dI : Nat → Nat → Nat) (sz : Nat) (h0 : Nat) (tx : Nat) (fl : Int32) (x0 : Int32) : Met l yX7_byteAt (.code yX7_byteAt cX7_byteAt 2 (some .int) :: wsA) ({ frames := 0, cells := 0, slots := 0, locals := 0 }) (va_Pc [.ref h0, .int x0] (fun U => U.heap.size = sz ∧ va_P (dC, dI) classes [(h0, .inr (7, [.ref tx, .int 0, .int 0, .int fl]))] U.heap ∧ va_K (dC, dI) classes [] U ∧ va_D (fun _ => True) [(h0, .inr (7, [.ref tx, .int 0, .int 0, .int fl]))] ∧ xE U)) (va_Qi (fun (r : Int32) (_ : Unit) => r = (-1)) (fun _ t => va_P (dC, dI) classes [(h0, .inr (7, [.ref tx, .int 0, .int 0, .int fl]))] t.heap ∧ va_K (dC, dI) classes [] t ∧ va_D (va_A [(h0, .inr (7, [.ref tx, .int 0, .int 0, .int fl]))] sz) [(h0, .inr (7, [.ref tx, .int 0, .int 0, .int fl]))]) (va_A [(h0, .inr (7, [.ref tx, .int 0, .int 0, .int fl]))] sz)) 0 0 (va_A [(h0, .inr (7, [.ref tx, .int 0, .int 0, .int fl]))] sz) := by
  refine Met.ofW (cc := cX7_byteAt) (maxL := 2) (ret := (some .int)) (by decide) rfl ?_
  intro p e s m args below meth c s₁ B hml hv
  obtain ⟨rfl, hsz, hP, hK, hD0, hE⟩ := hv
  have hx := B.exec
  have hb := B.bytes
  have hr := B.returns
  have hts := atoms_spec (ws := .code yX7_byteAt cX7_byteAt 2 (some .int) :: wsA) B.pre
  have hq : ∀ w ∈ wsA, w.before _ s = true := fun w h => hts w (List.mem_cons_of_mem _ h)
  have hown : s.vm.findClass RX7 = some m.cls := findClass_of_methodNamed B.named
  have hlocks := B.notSynchronized
  subst hsz
  have hD := hD0.self (sz := s.heap.size)
  generalize hAe : va_A [(h0, .inr (7, [.ref tx, .int 0, .int 0, .int fl]))] s.heap.size = A at hD ⊢
  have hA : ∀ q : Nat, s.heap.size ≤ q → A q := fun q h => by rw [← hAe]; exact Or.inr h
  have hS : va_S A s.heap s.heap [] := va_S.rf
  have hl := lv_entry ([.ref h0, .int x0]) (n := 2) (Nat.le_of_ble_eq_true rfl)
  rw [lg_entry_eq]
  generalize (lg_sl ([.ref h0, .int x0]) ++ List.replicate (2 - (lg_sl ([.ref h0, .int x0])).length) Slot.unset).toArray = ls at hl ⊢
  have hl : lv_has ls 2 [(0, .ref h0), (1, .int x0)] := hl
  refine lv_iload_n hx hb dX7_byteAt_0 rfl (lv_at hl 1 rfl) ?_
  refine lv_if_lt (tgt := 30) hx hb dX7_byteAt_1 (by decide) (fun c_1 => ?_) (fun c_1 => ?_)
  · refine lv_iconst (v := (-1)) hx hb dX7_byteAt_30 (by decide) ?_
    have hP9 := hP.sub (ws' := [(h0, .inr (7, [.ref tx, .int 0, .int 0, .int fl]))]) [0] rfl
    have hD9 := hD.sub (ws' := [(h0, .inr (7, [.ref tx, .int 0, .int 0, .int fl]))]) [0] (by decide) rfl
    have hK9 := hK.sub (tys' := []) [] rfl
    refine W.widen (k := 0) (n := 0) (Nat.le_of_ble_eq_true rfl) (Nat.le_of_ble_eq_true rfl) ?_
    exact W.iret (v := (-1)) hx hb hr (fun t ht hW => ⟨⟨(-1), (), rfl, rfl, by rw [ht]; exact hP9, va_K.moved hW.alike hK9, hD9⟩, hS.F ht⟩) hS.2.2 dX7_byteAt_31
  · refine lv_iload_n hx hb dX7_byteAt_4 rfl (lv_at hl 1 rfl) ?_
    refine lv_aload_n hx hb dX7_byteAt_5 rfl (lv_at hl 0 rfl) ?_
    refine va_get (D := (dC, dI)) (ci := 7) (v := .int 0) (C := RX7) (T := TX7) (N := 4) hx hb hq inX7 hown hK hP 0 rfl rfl 1 (by decide) (hq _ qw_160) (fun _ h9 => h9) rfl dX7_byteAt_6 ?_
    refine lv_icmp_ge (tgt := 30) hx hb dX7_byteAt_9 (by decide) (fun _ => ?_) (fun c9 => by have z0 : (0 : Int32).toInt = 0 := (by decide); simp only [Int32.le_iff_toInt_le, Int32.lt_iff_toInt_lt, ← Int32.toInt_inj, z0] at c9 c_1; omega)
    refine lv_iconst (v := (-1)) hx hb dX7_byteAt_30 (by decide) ?_
    have hP9 := hP.sub (ws' := [(h0, .inr (7, [.ref tx, .int 0, .int 0, .int fl]))]) [0] rfl
    have hD9 := hD.sub (ws' := [(h0, .inr (7, [.ref tx, .int 0, .int 0, .int fl]))]) [0] (by decide) rfl
    have hK9 := hK.sub (tys' := []) [] rfl
    refine W.widen (k := 0) (n := 0) (Nat.le_of_ble_eq_true rfl) (Nat.le_of_ble_eq_true rfl) ?_
    exact W.iret (v := (-1)) hx hb hr (fun t ht hW => ⟨⟨(-1), (), rfl, rfl, by rw [ht]; exact hP9, va_K.moved hW.alike hK9, hD9⟩, hS.F ht⟩) hS.2.2 dX7_byteAt_31

set_option maxHeartbeats 4000000 in
set_option maxRecDepth 100000 in
/-- c_Rd_sign -/
theorem c_Rd_sign (l : Launch) (dC : Nat → ClassId) (dI : Nat → Nat → Nat) (sz : Nat) (h0 : Nat) (tx : Nat) (fl : Int32) : Met l yX7_sign (.code yX7_sign cX7_sign 2 (some .int) :: wsA) ({ frames := 1, cells := 0, slots := 0, locals := 21 }) (va_Pc [.ref h0] (fun U => U.heap.size = sz ∧ va_P (dC, dI) classes [(h0, .inr (7, [.ref tx, .int 0, .int 0, .int fl]))] U.heap ∧ va_K (dC, dI) classes [] U ∧ va_D (fun _ => True) [(h0, .inr (7, [.ref tx, .int 0, .int 0, .int fl]))] ∧ xE U)) (va_Qi (fun (r : Int32) (_ : Unit) => r = (-1)) (fun _ t => va_P (dC, dI) classes [(h0, .inr (7, [.ref tx, .int 0, .int 0, .int fl]))] t.heap ∧ va_K (dC, dI) classes [] t ∧ va_D (va_A [(h0, .inr (7, [.ref tx, .int 0, .int 0, .int fl]))] sz) [(h0, .inr (7, [.ref tx, .int 0, .int 0, .int fl]))]) (va_A [(h0, .inr (7, [.ref tx, .int 0, .int 0, .int fl]))] sz)) 0 0 (va_A [(h0, .inr (7, [.ref tx, .int 0, .int 0, .int fl]))] sz) := by
  refine Met.ofW (cc := cX7_sign) (maxL := 2) (ret := (some .int)) (by decide) rfl ?_
  intro p e s m args below meth c s₁ B hml hv
  obtain ⟨rfl, hsz, hP, hK, hD0, hE⟩ := hv
  have hx := B.exec
  have hb := B.bytes
  have hr := B.returns
  have hts := atoms_spec (ws := .code yX7_sign cX7_sign 2 (some .int) :: wsA) B.pre
  have hq : ∀ w ∈ wsA, w.before _ s = true := fun w h => hts w (List.mem_cons_of_mem _ h)
  have hown : s.vm.findClass RX7 = some m.cls := findClass_of_methodNamed B.named
  have hlocks := B.notSynchronized
  subst hsz
  have hD := hD0.self (sz := s.heap.size)
  generalize hAe : va_A [(h0, .inr (7, [.ref tx, .int 0, .int 0, .int fl]))] s.heap.size = A at hD ⊢
  have hA : ∀ q : Nat, s.heap.size ≤ q → A q := fun q h => by rw [← hAe]; exact Or.inr h
  have hS : va_S A s.heap s.heap [] := va_S.rf
  have hl := lv_entry ([.ref h0]) (n := 2) (Nat.le_of_ble_eq_true rfl)
  rw [lg_entry_eq]
  generalize (lg_sl ([.ref h0]) ++ List.replicate (2 - (lg_sl ([.ref h0])).length) Slot.unset).toArray = ls at hl ⊢
  have hl : lv_has ls 2 [(0, .ref h0)] := hl
  refine lv_iconst (v := 0) hx hb dX7_sign_0 (by decide) ?_
  refine lv_istore_n (lv' := [(1, .int 0), (0, .ref h0)]) hx hb dX7_sign_1 rfl hl (by decide) rfl (fun ls hl => ?_)
  refine lv_iload_n hx hb dX7_sign_2 rfl (lv_at hl 0 rfl) ?_
  refine lv_sipush (v := 400) hx hb dX7_sign_3 (by decide) ?_
  refine lv_icmp_ge (tgt := 38) hx hb dX7_sign_6 (by decide) (fun c9 => absurd c9 (by decide)) (fun _ => ?_)
  refine lv_aload_n hx hb dX7_sign_9 rfl (lv_at hl 1 rfl) ?_
  refine lv_aload_n hx hb dX7_sign_10 rfl (lv_at hl 1 rfl) ?_
  refine va_get (D := (dC, dI)) (ci := 7) (v := .int 0) (C := RX7) (T := TX7) (N := 4) hx hb hq inX7 hown hK hP 0 rfl rfl 2 (by decide) (hq _ qw_161) (fun _ h9 => h9) rfl dX7_sign_11 ?_
  have hPc := hP.sub (ws' := [(h0, .inr (7, [.ref tx, .int 0, .int 0, .int fl]))]) [0] rfl
  have hDc := hD.sub (ws' := [(h0, .inr (7, [.ref tx, .int 0, .int 0, .int fl]))]) [0] (by decide) rfl
  have hKc := hK.sub (tys' := []) [] rfl
  have hFc := va_free (wc := [(h0, .inr (7, [.ref tx, .int 0, .int 0, .int fl]))]) hD hS hA [0] rfl
  refine va_calli (va_runV (As := [.int 0]) (rest := []) ⟨hx, hb, hml, hown, hq⟩ (c_Rd_byteAt l dC dI _ h0 tx fl 0 ) (cwV 1 hq (gV qw_542 qw_544 qw_1 qw_121 qw_545) rfl rfl rfl (by decide +kernel) ⟨Nat.le_of_ble_eq_true rfl, Nat.le_of_ble_eq_true rfl⟩) ⟨fun a U g mk q => by obtain ⟨q0, q1, qP, qK, qD, qE⟩ := q; exact ⟨q0, q1, qP, va_K.moved (u := U) (U := U.calling g mk a) (Vm.Alike.refl U.vm) qK, qD, xE.same rfl qE⟩, va_recv hKc hPc (ci := 7) (q0 := 0) rfl rfl, fun U hU hW => ⟨rfl, by rw [hU], by rw [hU]; exact hPc, va_K.moved hW.alike hKc, hDc.weaken (fun _ _ _ _ => trivial), xE.warm hW hE⟩⟩ rfl rfl hl.1 rfl (lv_room (Nat.le_of_ble_eq_true rfl)) dX7_sign_14 ⟨Nat.le_of_ble_eq_true rfl, Nat.le_of_ble_eq_true rfl⟩) hS (fun q _ h => hFc q h) hFc (fun r_1 u t H1 locs ht hvm hw hB hz1 hk1 hS => ?_)
  obtain ⟨hP1, hK1, hD1⟩ := hB
  rw [ht] at hP1
  have hK1 := va_K.moved hvm.symm hK1
  obtain ⟨hP, hD⟩ := va_join (wr := []) (w1 := [(h0, .inr (7, [.ref tx, .int 0, .int 0, .int fl]))]) hP hD [0] [] rfl rfl (by decide) (by decide) hk1 hFc hP1 hD1
  generalize H1 = H at hP hS ⊢
  have hP : va_P (dC, dI) classes [(h0, .inr (7, [.ref tx, .int 0, .int 0, .int fl]))] H := hP
  have hD : va_D A [(h0, .inr (7, [.ref tx, .int 0, .int 0, .int fl]))] := hD
  obtain rfl : r_1 = (-1) := hw
  refine lv_bipush (v := 32) hx hb dX7_sign_17 (by decide) ?_
  refine lv_icmp_ne (tgt := 38) hx hb dX7_sign_19 (by decide) (fun _ => ?_) (fun c9 => absurd c9 (by decide))
  refine lv_aload_n hx hb dX7_sign_38 rfl (lv_at hl 1 rfl) ?_
  refine lv_aload_n hx hb dX7_sign_39 rfl (lv_at hl 1 rfl) ?_
  refine va_get (D := (dC, dI)) (ci := 7) (v := .int 0) (C := RX7) (T := TX7) (N := 4) hx hb hq inX7 hown hK hP 0 rfl rfl 2 (by decide) (hq _ qw_161) (fun _ h9 => h9) rfl dX7_sign_40 ?_
  have hPc := hP.sub (ws' := [(h0, .inr (7, [.ref tx, .int 0, .int 0, .int fl]))]) [0] rfl
  have hDc := hD.sub (ws' := [(h0, .inr (7, [.ref tx, .int 0, .int 0, .int fl]))]) [0] (by decide) rfl
  have hKc := hK.sub (tys' := []) [] rfl
  have hFc := va_free (wc := [(h0, .inr (7, [.ref tx, .int 0, .int 0, .int fl]))]) hD hS hA [0] rfl
  refine va_calli (va_runV (As := [.int 0]) (rest := []) ⟨hx, hb, hml, hown, hq⟩ (c_Rd_byteAt l dC dI _ h0 tx fl 0 ) (cwV 1 hq (gV qw_542 qw_544 qw_1 qw_121 qw_545) rfl rfl rfl (by decide +kernel) ⟨Nat.le_of_ble_eq_true rfl, Nat.le_of_ble_eq_true rfl⟩) ⟨fun a U g mk q => by obtain ⟨q0, q1, qP, qK, qD, qE⟩ := q; exact ⟨q0, q1, qP, va_K.moved (u := U) (U := U.calling g mk a) (Vm.Alike.refl U.vm) qK, qD, xE.same rfl qE⟩, va_recv hKc hPc (ci := 7) (q0 := 0) rfl rfl, fun U hU hW => ⟨rfl, by rw [hU], by rw [hU]; exact hPc, va_K.moved hW.alike hKc, hDc.weaken (fun _ _ _ _ => trivial), xE.warm hW hE⟩⟩ rfl rfl hl.1 rfl (lv_room (Nat.le_of_ble_eq_true rfl)) dX7_sign_43 ⟨Nat.le_of_ble_eq_true rfl, Nat.le_of_ble_eq_true rfl⟩) hS (fun q _ h => hFc q h) hFc (fun r_2 u t H1 locs ht hvm hw hB hz1 hk1 hS => ?_)
  obtain ⟨hP1, hK1, hD1⟩ := hB
  rw [ht] at hP1
  have hK1 := va_K.moved hvm.symm hK1
  obtain ⟨hP, hD⟩ := va_join (wr := []) (w1 := [(h0, .inr (7, [.ref tx, .int 0, .int 0, .int fl]))]) hP hD [0] [] rfl rfl (by decide) (by decide) hk1 hFc hP1 hD1
  generalize H1 = H at hP hS ⊢
  have hP : va_P (dC, dI) classes [(h0, .inr (7, [.ref tx, .int 0, .int 0, .int fl]))] H := hP
  have hD : va_D A [(h0, .inr (7, [.ref tx, .int 0, .int 0, .int fl]))] := hD
  obtain rfl : r_2 = (-1) := hw
  have hP9 := hP.sub (ws' := [(h0, .inr (7, [.ref tx, .int 0, .int 0, .int fl]))]) [0] rfl
  have hD9 := hD.sub (ws' := [(h0, .inr (7, [.ref tx, .int 0, .int 0, .int fl]))]) [0] (by decide) rfl
  have hK9 := hK.sub (tys' := []) [] rfl
  refine W.widen (k := 0) (n := 0) (Nat.le_of_ble_eq_true rfl) (Nat.le_of_ble_eq_true rfl) ?_
  exact W.iret (v := (-1)) hx hb hr (fun t ht hW => ⟨⟨(-1), (), rfl, rfl, by rw [ht]; exact hP9, va_K.moved hW.alike hK9, hD9⟩, hS.F ht⟩) hS.2.2 dX7_sign_46

set_option maxHeartbeats 4000000 in
set_option maxRecDepth 100000 in
/-- c_Rd_blame -/
theorem c_Rd_blame (l : Launch) (dC : Nat → ClassId) (dI : Nat → Nat → Nat) (sz : Nat) (h0 : Nat) (tx : Nat) : Met l yX7_blame (.code yX7_blame cX7_blame 3 none :: wsA) ({ frames := 0, cells := 0, slots := 0, locals := 0 }) (va_Pc [.ref h0, .int 0, .int 0] (fun U => U.heap.size = sz ∧ va_P (dC, dI) classes [(h0, .inr (7, [.ref tx, .int 0, .int 0, .int 0]))] U.heap ∧ va_K (dC, dI) classes [] U ∧ va_D (fun _ => True) [(h0, .inr (7, [.ref tx, .int 0, .int 0, .int 0]))] ∧ xE U)) (va_Qv (fun (_ : Unit) => True) (fun _ t => va_P (dC, dI) classes [(h0, .inr (7, [.ref tx, .int 0, .int 0, .int 1]))] t.heap ∧ va_K (dC, dI) classes [] t ∧ va_D (va_A [(h0, .inr (7, [.ref tx, .int 0, .int 0, .int 0]))] sz) [(h0, .inr (7, [.ref tx, .int 0, .int 0, .int 1]))]) (va_A [(h0, .inr (7, [.ref tx, .int 0, .int 0, .int 0]))] sz)) 0 0 (va_A [(h0, .inr (7, [.ref tx, .int 0, .int 0, .int 0]))] sz) := by
  refine Met.ofW (cc := cX7_blame) (maxL := 3) (ret := none) (by decide) rfl ?_
  intro p e s m args below meth c s₁ B hml hv
  obtain ⟨rfl, hsz, hP, hK, hD0, hE⟩ := hv
  have hx := B.exec
  have hb := B.bytes
  have hr := B.returns
  have hts := atoms_spec (ws := .code yX7_blame cX7_blame 3 none :: wsA) B.pre
  have hq : ∀ w ∈ wsA, w.before _ s = true := fun w h => hts w (List.mem_cons_of_mem _ h)
  have hown : s.vm.findClass RX7 = some m.cls := findClass_of_methodNamed B.named
  have hlocks := B.notSynchronized
  subst hsz
  have hD := hD0.self (sz := s.heap.size)
  generalize hAe : va_A [(h0, .inr (7, [.ref tx, .int 0, .int 0, .int 0]))] s.heap.size = A at hD ⊢
  have hA : ∀ q : Nat, s.heap.size ≤ q → A q := fun q h => by rw [← hAe]; exact Or.inr h
  have hS : va_S A s.heap s.heap [] := va_S.rf
  have hl := lv_entry ([.ref h0, .int 0, .int 0]) (n := 3) (Nat.le_of_ble_eq_true rfl)
  rw [lg_entry_eq]
  generalize (lg_sl ([.ref h0, .int 0, .int 0]) ++ List.replicate (3 - (lg_sl ([.ref h0, .int 0, .int 0])).length) Slot.unset).toArray = ls at hl ⊢
  have hl : lv_has ls 3 [(0, .ref h0), (1, .int 0), (2, .int 0)] := hl
  refine lv_aload_n hx hb dX7_blame_0 rfl (lv_at hl 0 rfl) ?_
  refine va_get (D := (dC, dI)) (ci := 7) (v := .int 0) (C := RX7) (T := TX7) (N := 4) hx hb hq inX7 hown hK hP 0 rfl rfl 3 (by decide) (hq _ qw_164) (fun _ h9 => h9) rfl dX7_blame_1 ?_
  refine lv_if_ne (tgt := 19) hx hb dX7_blame_4 (by decide) (fun c9 => absurd c9 (by decide)) (fun _ => ?_)
  refine lv_aload_n hx hb dX7_blame_7 rfl (lv_at hl 0 rfl) ?_
  refine lv_iconst (v := 1) hx hb dX7_blame_8 (by decide) ?_
  refine lv_bipush (v := 8) hx hb dX7_blame_9 (by decide) ?_
  refine lv_iload_n hx hb dX7_blame_11 rfl (lv_at hl 1 rfl) ?_
  refine lv_imul hx hb dX7_blame_12 ?_
  refine lv_topi (fun y_1 ey_1 => ?_)
  obtain rfl : y_1 = 0 := ey_1.trans (by decide)
  refine lv_iadd hx hb dX7_blame_13 ?_
  refine lv_topi (fun y_2 ey_2 => ?_)
  obtain rfl : y_2 = 1 := ey_2.trans (by decide)
  refine lv_iload_n hx hb dX7_blame_14 rfl (lv_at hl 2 rfl) ?_
  refine lv_iadd hx hb dX7_blame_15 ?_
  refine lv_topi (fun y_3 ey_3 => ?_)
  obtain rfl : y_3 = 1 := ey_3.trans (by decide)
  refine va_put (D := (dC, dI)) (ci := 7) (v := .int 1) (ty := .int) (C := RX7) (T := TX7) (N := 4) hx hb hq inX7 tyX7 tyX7_ok nmX7 hown hK hP hD hS 0 rfl rfl 3 (by decide) (hq _ qw_164) (fun _ h9 => h9) rfl (by decide +kernel) rfl rfl (Nat.le_of_ble_eq_true rfl) dX7_blame_16 (fun H locs hP hD hS => ?_)
  have hP : va_P (dC, dI) classes [(h0, .inr (7, [.ref tx, .int 0, .int 0, .int 1]))] H := hP
  have hD : va_D A [(h0, .inr (7, [.ref tx, .int 0, .int 0, .int 1]))] := hD
  have hP9 := hP.sub (ws' := [(h0, .inr (7, [.ref tx, .int 0, .int 0, .int 1]))]) [0] rfl
  have hD9 := hD.sub (ws' := [(h0, .inr (7, [.ref tx, .int 0, .int 0, .int 1]))]) [0] (by decide) rfl
  have hK9 := hK.sub (tys' := []) [] rfl
  refine W.widen (k := 0) (n := 0) (Nat.le_of_ble_eq_true rfl) (Nat.le_of_ble_eq_true rfl) ?_
  exact W.vret hx hb hr (fun t ht hW => ⟨⟨(), rfl, trivial, by rw [ht]; exact hP9, va_K.moved hW.alike hK9, hD9⟩, hS.F ht⟩) hS.2.2 dX7_blame_19

set_option maxHeartbeats 4000000 in
set_option maxRecDepth 100000 in
/-- c_Rd_goesOn -/
theorem c_Rd_goesOn (l : Launch) (dC : Nat → ClassId) (dI : Nat → Nat → Nat) (sz : Nat) (h0 : Nat) (tx : Nat) : Met l yX7_goesOn (.code yX7_goesOn cX7_goesOn 2 (some .boolean) :: wsA) ({ frames := 2, cells := 0, slots := 0, locals := 42 }) (va_Pc [.ref h0] (fun U => U.heap.size = sz ∧ va_P (dC, dI) classes [(h0, .inr (7, [.ref tx, .int 0, .int 0, .int 1]))] U.heap ∧ va_K (dC, dI) classes [] U ∧ va_D (fun _ => True) [(h0, .inr (7, [.ref tx, .int 0, .int 0, .int 1]))] ∧ xE U)) (va_Qi (fun (r : Int32) (_ : Unit) => r = 0) (fun _ t => va_P (dC, dI) classes [(h0, .inr (7, [.ref tx, .int 0, .int 0, .int 1]))] t.heap ∧ va_K (dC, dI) classes [] t ∧ va_D (va_A [(h0, .inr (7, [.ref tx, .int 0, .int 0, .int 1]))] sz) [(h0, .inr (7, [.ref tx, .int 0, .int 0, .int 1]))]) (va_A [(h0, .inr (7, [.ref tx, .int 0, .int 0, .int 1]))] sz)) 0 0 (va_A [(h0, .inr (7, [.ref tx, .int 0, .int 0, .int 1]))] sz) := by
  refine Met.ofW (cc := cX7_goesOn) (maxL := 2) (ret := (some .boolean)) (by decide) rfl ?_
  intro p e s m args below meth c s₁ B hml hv
  obtain ⟨rfl, hsz, hP, hK, hD0, hE⟩ := hv
  have hx := B.exec
  have hb := B.bytes
  have hr := B.returns
  have hts := atoms_spec (ws := .code yX7_goesOn cX7_goesOn 2 (some .boolean) :: wsA) B.pre
  have hq : ∀ w ∈ wsA, w.before _ s = true := fun w h => hts w (List.mem_cons_of_mem _ h)
  have hown : s.vm.findClass RX7 = some m.cls := findClass_of_methodNamed B.named
  have hlocks := B.notSynchronized
  subst hsz
  have hD := hD0.self (sz := s.heap.size)
  generalize hAe : va_A [(h0, .inr (7, [.ref tx, .int 0, .int 0, .int 1]))] s.heap.size = A at hD ⊢
  have hA : ∀ q : Nat, s.heap.size ≤ q → A q := fun q h => by rw [← hAe]; exact Or.inr h
  have hS : va_S A s.heap s.heap [] := va_S.rf
  have hl := lv_entry ([.ref h0]) (n := 2) (Nat.le_of_ble_eq_true rfl)
  rw [lg_entry_eq]
  generalize (lg_sl ([.ref h0]) ++ List.replicate (2 - (lg_sl ([.ref h0])).length) Slot.unset).toArray = ls at hl ⊢
  have hl : lv_has ls 2 [(0, .ref h0)] := hl
  refine lv_aload_n hx hb dX7_goesOn_0 rfl (lv_at hl 0 rfl) ?_
  have hPc := hP.sub (ws' := [(h0, .inr (7, [.ref tx, .int 0, .int 0, .int 1]))]) [0] rfl
  have hDc := hD.sub (ws' := [(h0, .inr (7, [.ref tx, .int 0, .int 0, .int 1]))]) [0] (by decide) rfl
  have hKc := hK.sub (tys' := []) [] rfl
  have hFc := va_free (wc := [(h0, .inr (7, [.ref tx, .int 0, .int 0, .int 1]))]) hD hS hA [0] rfl
  refine va_calli (va_runV (As := []) (rest := []) ⟨hx, hb, hml, hown, hq⟩ (c_Rd_sign l dC dI _ h0 tx 1 ) (cwV 0 hq (gV qw_645 qw_539 qw_540 qw_121 qw_541) rfl rfl rfl (by decide +kernel) ⟨Nat.le_of_ble_eq_true rfl, Nat.le_of_ble_eq_true rfl⟩) ⟨fun a U g mk q => by obtain ⟨q0, q1, qP, qK, qD, qE⟩ := q; exact ⟨q0, q1, qP, va_K.moved (u := U) (U := U.calling g mk a) (Vm.Alike.refl U.vm) qK, qD, xE.same rfl qE⟩, va_recv hKc hPc (ci := 7) (q0 := 0) rfl rfl, fun U hU hW => ⟨rfl, by rw [hU], by rw [hU]; exact hPc, va_K.moved hW.alike hKc, hDc.weaken (fun _ _ _ _ => trivial), xE.warm hW hE⟩⟩ rfl rfl hl.1 rfl (lv_room (Nat.le_of_ble_eq_true rfl)) dX7_goesOn_1 ⟨Nat.le_of_ble_eq_true rfl, Nat.le_of_ble_eq_true rfl⟩) hS (fun q _ h => hFc q h) hFc (fun r_1 u t H1 locs ht hvm hw hB hz1 hk1 hS => ?_)
  obtain ⟨hP1, hK1, hD1⟩ := hB
  rw [ht] at hP1
  have hK1 := va_K.moved hvm.symm hK1
  obtain ⟨hP, hD⟩ := va_join (wr := []) (w1 := [(h0, .inr (7, [.ref tx, .int 0, .int 0, .int 1]))]) hP hD [0] [] rfl rfl (by decide) (by decide) hk1 hFc hP1 hD1
  generalize H1 = H at hP hS ⊢
  have hP : va_P (dC, dI) classes [(h0, .inr (7, [.ref tx, .int 0, .int 0, .int 1]))] H := hP
  have hD : va_D A [(h0, .inr (7, [.ref tx, .int 0, .int 0, .int 1]))] := hD
  obtain rfl : r_1 = (-1) := hw
  refine lv_istore_n (lv' := [(1, .int (-1)), (0, .ref h0)]) hx hb dX7_goesOn_4 rfl hl (by decide) rfl (fun ls hl => ?_)
  refine lv_aload_n hx hb dX7_goesOn_5 rfl (lv_at hl 1 rfl) ?_
  refine va_get (D := (dC, dI)) (ci := 7) (v := .int 1) (C := RX7) (T := TX7) (N := 4) hx hb hq inX7 hown hK hP 0 rfl rfl 3 (by decide) (hq _ qw_164) (fun _ h9 => h9) rfl dX7_goesOn_6 ?_
  refine lv_if_ne (tgt := 17) hx hb dX7_goesOn_9 (by decide) (fun _ => ?_) (fun c9 => absurd c9 (by decide))
  refine lv_iconst (v := 0) hx hb dX7_goesOn_17 (by decide) ?_
  have hP9 := hP.sub (ws' := [(h0, .inr (7, [.ref tx, .int 0, .int 0, .int 1]))]) [0] rfl
  have hD9 := hD.sub (ws' := [(h0, .inr (7, [.ref tx, .int 0, .int 0, .int 1]))]) [0] (by decide) rfl
  have hK9 := hK.sub (tys' := []) [] rfl
  refine W.widen (k := 0) (n := 0) (Nat.le_of_ble_eq_true rfl) (Nat.le_of_ble_eq_true rfl) ?_
  exact W.zret (v := 0) hx hb hr (by decide) (fun t ht hW => ⟨⟨0, (), rfl, rfl, by rw [ht]; exact hP9, va_K.moved hW.alike hK9, hD9⟩, hS.F ht⟩) hS.2.2 dX7_goesOn_18

set_option maxHeartbeats 4000000 in
set_option maxRecDepth 100000 in
/-- c_Rd_open -/
theorem c_Rd_open (l : Launch) (dC : Nat → ClassId) (dI : Nat → Nat → Nat) (sz : Nat) (h0 : Nat) (tx : Nat) (h1 : Nat) (k1 : ClassId) (g1 : Nat → Int32) : Met l yX7_open (.code yX7_open cX7_open 3 none :: wsA) ({ frames := 1, cells := 0, slots := 0, locals := 25 }) (va_Pc [.ref h0, .ref h1, .int 0] (fun U => U.heap.size = sz ∧ va_P (dC, dI) classes [(h0, .inr (7, [.ref tx, .int 0, .int 0, .int 0])), (h1, .inl (k1, 400, .inl g1))] U.heap ∧ va_K (dC, dI) classes [(k1, .int)] U ∧ va_D (fun _ => True) [(h0, .inr (7, [.ref tx, .int 0, .int 0, .int 0])), (h1, .inl (k1, 400, .inl g1))] ∧ xE U)) (va_Qv (fun (_ : Unit) => True) (fun _ t => va_P (dC, dI) classes [(h0, .inr (7, [.ref h1, .int 0, .int 0, .int 0])), (h1, .inl (k1, 400, .inl g1))] t.heap ∧ va_K (dC, dI) classes [(k1, .int)] t ∧ va_D (va_A [(h0, .inr (7, [.ref tx, .int 0, .int 0, .int 0])), (h1, .inl (k1, 400, .inl g1))] sz) [(h0, .inr (7, [.ref h1, .int 0, .int 0, .int 0])), (h1, .inl (k1, 400, .inl g1))]) (va_A [(h0, .inr (7, [.ref tx, .int 0, .int 0, .int 0])), (h1, .inl (k1, 400, .inl g1))] sz)) 0 0 (va_A [(h0, .inr (7, [.ref tx, .int 0, .int 0, .int 0])), (h1, .inl (k1, 400, .inl g1))] sz) := by
  refine Met.ofW (cc := cX7_open) (maxL := 3) (ret := none) (by decide) rfl ?_
  intro p e s m args below meth c s₁ B hml hv
  obtain ⟨rfl, hsz, hP, hK, hD0, hE⟩ := hv
  have hx := B.exec
  have hb := B.bytes
  have hr := B.returns
  have hts := atoms_spec (ws := .code yX7_open cX7_open 3 none :: wsA) B.pre
  have hq : ∀ w ∈ wsA, w.before _ s = true := fun w h => hts w (List.mem_cons_of_mem _ h)
  have hown : s.vm.findClass RX7 = some m.cls := findClass_of_methodNamed B.named
  have hlocks := B.notSynchronized
  subst hsz
  have hD := hD0.self (sz := s.heap.size)
  generalize hAe : va_A [(h0, .inr (7, [.ref tx, .int 0, .int 0, .int 0])), (h1, .inl (k1, 400, .inl g1))] s.heap.size = A at hD ⊢
  have hA : ∀ q : Nat, s.heap.size ≤ q → A q := fun q h => by rw [← hAe]; exact Or.inr h
  have hS : va_S A s.heap s.heap [] := va_S.rf
  have hl := lv_entry ([.ref h0, .ref h1, .int 0]) (n := 3) (Nat.le_of_ble_eq_true rfl)
  rw [lg_entry_eq]
  generalize (lg_sl ([.ref h0, .ref h1, .int 0]) ++ List.replicate (3 - (lg_sl ([.ref h0, .ref h1, .int 0])).length) Slot.unset).toArray = ls at hl ⊢
  have hl : lv_has ls 3 [(0, .ref h0), (1, .ref h1), (2, .int 0)] := hl
  refine lv_aload_n hx hb dX7_open_0 rfl (lv_at hl 0 rfl) ?_
  refine lv_aload_n hx hb dX7_open_1 rfl (lv_at hl 1 rfl) ?_
  refine va_put (D := (dC, dI)) (ci := 7) (v := .ref h1) (ty := .array .int) (C := RX7) (T := TX7) (N := 4) hx hb hq inX7 tyX7 tyX7_ok nmX7 hown hK hP hD hS 0 rfl rfl 0 (by decide) (hq _ qw_159) (fun _ h9 => h9) rfl (by decide +kernel) rfl rfl (Nat.le_of_ble_eq_true rfl) dX7_open_2 (fun H locs hP hD hS => ?_)
  have hP : va_P (dC, dI) classes [(h0, .inr (7, [.ref h1, .int 0, .int 0, .int 0])), (h1, .inl (k1, 400, .inl g1))] H := hP
  have hD : va_D A [(h0, .inr (7, [.ref h1, .int 0, .int 0, .int 0])), (h1, .inl (k1, 400, .inl g1))] := hD
  refine lv_aload_n hx hb dX7_open_5 rfl (lv_at hl 0 rfl) ?_
  refine lv_iload_n hx hb dX7_open_6 rfl (lv_at hl 2 rfl) ?_
  refine lv_aload_n hx hb dX7_open_7 rfl (lv_at hl 1 rfl) ?_
  refine va_alen (v := 400) hx hb hK hP 1 0 rfl rfl rfl dX7_open_8 ?_
  refine va_mmin hx hb (by rw [hml]; exact hl.1.symm) hown (hq _ qw_531) (hq _ qw_532) (hq _ qw_132) (hq _ qw_533) (Nat.le_of_ble_eq_true rfl) (Nat.le_of_ble_eq_true rfl) (Nat.zero_le _) (Nat.zero_le _) dX7_open_9 ?_
  refine lv_topi (fun y_1 ey_1 => ?_)
  obtain rfl : y_1 = 0 := ey_1.trans (by decide)
  refine va_put (D := (dC, dI)) (ci := 7) (v := .int 0) (ty := .int) (C := RX7) (T := TX7) (N := 4) hx hb hq inX7 tyX7 tyX7_ok nmX7 hown hK hP hD hS 0 rfl rfl 1 (by decide) (hq _ qw_160) (fun _ h9 => h9) rfl (by decide +kernel) rfl rfl (Nat.le_of_ble_eq_true rfl) dX7_open_12 (fun H locs hP hD hS => ?_)
  have hP : va_P (dC, dI) classes [(h0, .inr (7, [.ref h1, .int 0, .int 0, .int 0])), (h1, .inl (k1, 400, .inl g1))] H := hP
  have hD : va_D A [(h0, .inr (7, [.ref h1, .int 0, .int 0, .int 0])), (h1, .inl (k1, 400, .inl g1))] := hD
  refine lv_aload_n hx hb dX7_open_15 rfl (lv_at hl 0 rfl) ?_
  refine lv_iconst (v := 0) hx hb dX7_open_16 (by decide) ?_
  refine va_put (D := (dC, dI)) (ci := 7) (v := .int 0) (ty := .int) (C := RX7) (T := TX7) (N := 4) hx hb hq inX7 tyX7 tyX7_ok nmX7 hown hK hP hD hS 0 rfl rfl 2 (by decide) (hq _ qw_161) (fun _ h9 => h9) rfl (by decide +kernel) rfl rfl (Nat.le_of_ble_eq_true rfl) dX7_open_17 (fun H locs hP hD hS => ?_)
  have hP : va_P (dC, dI) classes [(h0, .inr (7, [.ref h1, .int 0, .int 0, .int 0])), (h1, .inl (k1, 400, .inl g1))] H := hP
  have hD : va_D A [(h0, .inr (7, [.ref h1, .int 0, .int 0, .int 0])), (h1, .inl (k1, 400, .inl g1))] := hD
  refine lv_aload_n hx hb dX7_open_20 rfl (lv_at hl 0 rfl) ?_
  refine lv_iconst (v := 0) hx hb dX7_open_21 (by decide) ?_
  refine va_put (D := (dC, dI)) (ci := 7) (v := .int 0) (ty := .int) (C := RX7) (T := TX7) (N := 4) hx hb hq inX7 tyX7 tyX7_ok nmX7 hown hK hP hD hS 0 rfl rfl 3 (by decide) (hq _ qw_164) (fun _ h9 => h9) rfl (by decide +kernel) rfl rfl (Nat.le_of_ble_eq_true rfl) dX7_open_22 (fun H locs hP hD hS => ?_)
  have hP : va_P (dC, dI) classes [(h0, .inr (7, [.ref h1, .int 0, .int 0, .int 0])), (h1, .inl (k1, 400, .inl g1))] H := hP
  have hD : va_D A [(h0, .inr (7, [.ref h1, .int 0, .int 0, .int 0])), (h1, .inl (k1, 400, .inl g1))] := hD
  have hP9 := hP.sub (ws' := [(h0, .inr (7, [.ref h1, .int 0, .int 0, .int 0])), (h1, .inl (k1, 400, .inl g1))]) [0, 1] rfl
  have hD9 := hD.sub (ws' := [(h0, .inr (7, [.ref h1, .int 0, .int 0, .int 0])), (h1, .inl (k1, 400, .inl g1))]) [0, 1] (by decide) rfl
  have hK9 := hK.sub (tys' := [(k1, .int)]) [0] rfl
  refine W.widen (k := 0) (n := 0) (Nat.le_of_ble_eq_true rfl) (Nat.le_of_ble_eq_true rfl) ?_
  exact W.vret hx hb hr (fun t ht hW => ⟨⟨(), rfl, trivial, by rw [ht]; exact hP9, va_K.moved hW.alike hK9, hD9⟩, hS.F ht⟩) hS.2.2 dX7_open_25

set_option maxHeartbeats 4000000 in
set_option maxRecDepth 100000 in
/-- c_Rd_word_0 -/
theorem c_Rd_word_0 (l : Launch) (dC : Nat → ClassId) (dI : Nat → Nat → Nat) (sz : Nat) (kA vA : Nat → Nat) (h0 : Nat) (tx : Nat) : Met l yX7_wordAmong (.code yX7_wordAmong cX7_wordAmong 7 (some .int) :: wsA) ({ frames := 4, cells := 0, slots := 0, locals := 85 }) (va_Pc [.ref h0, .ref (kA 0)] (fun U => U.heap.size = sz ∧ va_P (dC, dI) classes [(h0, .inr (7, [.ref tx, .int 0, .int 0, .int 0]))] U.heap ∧ va_K (dC, dI) classes [] U ∧ va_D (fun _ => True) [(h0, .inr (7, [.ref tx, .int 0, .int 0, .int 0]))] ∧ xE U ∧ xT kA vA (va_A [(h0, .inr (7, [.ref tx, .int 0, .int 0, .int 0]))] sz) U U.heap)) (va_Qi (fun (r : Int32) (_ : Unit) => r = (-1)) (fun _ t => va_P (dC, dI) classes [(h0, .inr (7, [.ref tx, .int 0, .int 0, .int 0]))] t.heap ∧ va_K (dC, dI) classes [] t ∧ va_D (va_A [(h0, .inr (7, [.ref tx, .int 0, .int 0, .int 0]))] sz) [(h0, .inr (7, [.ref tx, .int 0, .int 0, .int 0]))]) (va_A [(h0, .inr (7, [.ref tx, .int 0, .int 0, .int 0]))] sz)) 0 0 (va_A [(h0, .inr (7, [.ref tx, .int 0, .int 0, .int 0]))] sz) := by
  refine Met.ofW (cc := cX7_wordAmong) (maxL := 7) (ret := (some .int)) (by decide) rfl ?_
  intro p e s m args below meth c s₁ B hml hv
  obtain ⟨rfl, hsz, hP, hK, hD0, hE, hT⟩ := hv
  have hx := B.exec
  have hb := B.bytes
  have hr := B.returns
  have hts := atoms_spec (ws := .code yX7_wordAmong cX7_wordAmong 7 (some .int) :: wsA) B.pre
  have hq : ∀ w ∈ wsA, w.before _ s = true := fun w h => hts w (List.mem_cons_of_mem _ h)
  have hown : s.vm.findClass RX7 = some m.cls := findClass_of_methodNamed B.named
  have hlocks := B.notSynchronized
  subst hsz
  have hD := hD0.self (sz := s.heap.size)
  generalize hAe : va_A [(h0, .inr (7, [.ref tx, .int 0, .int 0, .int 0]))] s.heap.size = A at hD hT ⊢
  have hA : ∀ q : Nat, s.heap.size ≤ q → A q := fun q h => by rw [← hAe]; exact Or.inr h
  have hS : va_S A s.heap s.heap [] := va_S.rf
  have hl := lv_entry ([.ref h0, .ref (kA 0)]) (n := 7) (Nat.le_of_ble_eq_true rfl)
  rw [lg_entry_eq]
  generalize (lg_sl ([.ref h0, .ref (kA 0)]) ++ List.replicate (7 - (lg_sl ([.ref h0, .ref (kA 0)])).length) Slot.unset).toArray = ls at hl ⊢
  have hl : lv_has ls 7 [(0, .ref h0), (1, .ref (kA 0))] := hl
  refine lv_iconst (v := 0) hx hb dX7_wordAmong_0 (by decide) ?_
  refine lv_istore_n (lv' := [(2, .int 0), (0, .ref h0), (1, .ref (kA 0))]) hx hb dX7_wordAmong_1 rfl hl (by decide) rfl (fun ls hl => ?_)
  refine lv_iconst (v := 0) hx hb dX7_wordAmong_2 (by decide) ?_
  refine lv_istore_n (lv' := [(3, .int 0), (2, .int 0), (0, .ref h0), (1, .ref (kA 0))]) hx hb dX7_wordAmong_3 rfl hl (by decide) rfl (fun ls hl => ?_)
  refine lv_iconst (v := 1) hx hb dX7_wordAmong_4 (by decide) ?_
  refine lv_istore (lv' := [(4, .int 1), (3, .int 0), (2, .int 0), (0, .ref h0), (1, .ref (kA 0))]) hx hb dX7_wordAmong_5 hl (by decide) rfl (fun ls hl => ?_)
  refine lv_iconst (v := 0) hx hb dX7_wordAmong_7 (by decide) ?_
  refine lv_istore (lv' := [(5, .int 0), (4, .int 1), (3, .int 0), (2, .int 0), (0, .ref h0), (1, .ref (kA 0))]) hx hb dX7_wordAmong_8 hl (by decide) rfl (fun ls hl => ?_)
  refine lv_iload hx hb dX7_wordAmong_10 (lv_at hl 0 rfl) ?_
  refine lv_aload_n hx hb dX7_wordAmong_12 rfl (lv_at hl 5 rfl) ?_
  have hPc := hP.sub (ws' := []) [] rfl
  have hDc := hD.sub (ws' := []) [] (by decide) rfl
  have hKc := hK.sub (tys' := []) [] rfl
  have hFc := va_free (wc := []) hD hS hA [] rfl
  refine va_calli (va_runV (As := []) (rest := [.int 0]) ⟨hx, hb, hml, hown, hq⟩ (c_J_length_0 l dC dI _ kA vA  ) (cwV 0 hq (gV qw_551 qw_552 qw_553 qw_133 qw_554) rfl rfl rfl (by decide +kernel) ⟨Nat.le_of_ble_eq_true rfl, Nat.le_of_ble_eq_true rfl⟩) ⟨fun a U g mk q => by obtain ⟨q0, q1, qP, qK, qD, qE, qT⟩ := q; exact ⟨q0, q1, qP, va_K.moved (u := U) (U := U.calling g mk a) (Vm.Alike.refl U.vm) qK, qD, xE.same rfl qE, xT.same rfl qT⟩, xT_recv hT hS (i := 0) (by decide), fun U hU hW => ⟨rfl, by rw [hU], by rw [hU]; exact hPc, va_K.moved hW.alike hKc, hDc.weaken (fun _ _ _ _ => trivial), xE.warm hW hE, by rw [hU]; exact xT.call hW hT hS hFc⟩⟩ rfl rfl hl.1 rfl (lv_room (Nat.le_of_ble_eq_true rfl)) dX7_wordAmong_13 ⟨Nat.le_of_ble_eq_true rfl, Nat.le_of_ble_eq_true rfl⟩) hS (fun q _ h => hFc q h) hFc (fun r_1 u t H1 locs ht hvm hw hB hz1 hk1 hS => ?_)
  obtain ⟨hP1, hK1, hD1⟩ := hB
  rw [ht] at hP1
  have hK1 := va_K.moved hvm.symm hK1
  obtain ⟨hP, hD⟩ := va_join (wr := [(h0, .inr (7, [.ref tx, .int 0, .int 0, .int 0]))]) (w1 := []) hP hD [] [0] rfl rfl (by decide) (by decide) hk1 hFc hP1 hD1
  generalize H1 = H at hP hS ⊢
  have hP : va_P (dC, dI) classes [(h0, .inr (7, [.ref tx, .int 0, .int 0, .int 0]))] H := hP
  have hD : va_D A [(h0, .inr (7, [.ref tx, .int 0, .int 0, .int 0]))] := hD
  obtain rfl : r_1 = 24 := hw
  refine lv_icmp_ge (tgt := 104) hx hb dX7_wordAmong_16 (by decide) (fun c9 => absurd c9 (by decide)) (fun _ => ?_)
  refine lv_aload_n hx hb dX7_wordAmong_19 rfl (lv_at hl 5 rfl) ?_
  refine lv_iload hx hb dX7_wordAmong_20 (lv_at hl 0 rfl) ?_
  have hPc := hP.sub (ws' := []) [] rfl
  have hDc := hD.sub (ws' := []) [] (by decide) rfl
  have hKc := hK.sub (tys' := []) [] rfl
  have hFc := va_free (wc := []) hD hS hA [] rfl
  refine va_calli (va_runV (As := [.int 0]) (rest := []) ⟨hx, hb, hml, hown, hq⟩ (c_J_charAt_0 l dC dI _ kA vA 0 (by decide) (by decide)) (cwV 1 hq (gV qw_561 qw_562 qw_563 qw_133 qw_564) rfl rfl rfl (by decide +kernel) ⟨Nat.le_of_ble_eq_true rfl, Nat.le_of_ble_eq_true rfl⟩) ⟨fun a U g mk q => by obtain ⟨q0, q1, qP, qK, qD, qE, qT⟩ := q; exact ⟨q0, q1, qP, va_K.moved (u := U) (U := U.calling g mk a) (Vm.Alike.refl U.vm) qK, qD, xE.same rfl qE, xT.same rfl qT⟩, xT_recv hT hS (i := 0) (by decide), fun U hU hW => ⟨rfl, by rw [hU], by rw [hU]; exact hPc, va_K.moved hW.alike hKc, hDc.weaken (fun _ _ _ _ => trivial), xE.warm hW hE, by rw [hU]; exact xT.call hW hT hS hFc⟩⟩ rfl rfl hl.1 rfl (lv_room (Nat.le_of_ble_eq_true rfl)) dX7_wordAmong_22 ⟨Nat.le_of_ble_eq_true rfl, Nat.le_of_ble_eq_true rfl⟩) hS (fun q _ h => hFc q h) hFc (fun r_2 u t H1 locs ht hvm hw hB hz1 hk1 hS => ?_)
  obtain ⟨hP1, hK1, hD1⟩ := hB
  rw [ht] at hP1
  have hK1 := va_K.moved hvm.symm hK1
  obtain ⟨hP, hD⟩ := va_join (wr := [(h0, .inr (7, [.ref tx, .int 0, .int 0, .int 0]))]) (w1 := []) hP hD [] [0] rfl rfl (by decide) (by decide) hk1 hFc hP1 hD1
  generalize H1 = H at hP hS ⊢
  have hP : va_P (dC, dI) classes [(h0, .inr (7, [.ref tx, .int 0, .int 0, .int 0]))] H := hP
  have hD : va_D A [(h0, .inr (7, [.ref tx, .int 0, .int 0, .int 0]))] := hD
  obtain rfl : r_2 = 100 := hw.trans (by decide)
  refine lv_istore (lv' := [(6, .int 100), (5, .int 0), (4, .int 1), (3, .int 0), (2, .int 0), (0, .ref h0), (1, .ref (kA 0))]) hx hb dX7_wordAmong_25 hl (by decide) rfl (fun ls hl => ?_)
  refine lv_iload hx hb dX7_wordAmong_27 (lv_at hl 0 rfl) ?_
  refine lv_bipush (v := 32) hx hb dX7_wordAmong_29 (by decide) ?_
  refine lv_icmp_eq (tgt := 67) hx hb dX7_wordAmong_31 (by decide) (fun c9 => absurd c9 (by decide)) (fun _ => ?_)
  refine lv_iload hx hb dX7_wordAmong_34 (lv_at hl 2 rfl) ?_
  refine lv_if_eq (tgt := 58) hx hb dX7_wordAmong_36 (by decide) (fun c9 => absurd c9 (by decide)) (fun _ => ?_)
  refine lv_aload_n hx hb dX7_wordAmong_39 rfl (lv_at hl 5 rfl) ?_
  refine lv_aload_n hx hb dX7_wordAmong_40 rfl (lv_at hl 5 rfl) ?_
  refine va_get (D := (dC, dI)) (ci := 7) (v := .int 0) (C := RX7) (T := TX7) (N := 4) hx hb hq inX7 hown hK hP 0 rfl rfl 2 (by decide) (hq _ qw_161) (fun _ h9 => h9) rfl dX7_wordAmong_41 ?_
  refine lv_iload_n hx hb dX7_wordAmong_44 rfl (lv_at hl 3 rfl) ?_
  refine lv_iadd hx hb dX7_wordAmong_45 ?_
  refine lv_topi (fun y_3 ey_3 => ?_)
  obtain rfl : y_3 = 0 := ey_3.trans (by decide)
  have hPc := hP.sub (ws' := [(h0, .inr (7, [.ref tx, .int 0, .int 0, .int 0]))]) [0] rfl
  have hDc := hD.sub (ws' := [(h0, .inr (7, [.ref tx, .int 0, .int 0, .int 0]))]) [0] (by decide) rfl
  have hKc := hK.sub (tys' := []) [] rfl
  have hFc := va_free (wc := [(h0, .inr (7, [.ref tx, .int 0, .int 0, .int 0]))]) hD hS hA [0] rfl
  refine va_calli (va_runV (As := [.int 0]) (rest := []) ⟨hx, hb, hml, hown, hq⟩ (c_Rd_byteAt l dC dI _ h0 tx 0 0 ) (cwV 1 hq (gV qw_542 qw_544 qw_1 qw_121 qw_545) rfl rfl rfl (by decide +kernel) ⟨Nat.le_of_ble_eq_true rfl, Nat.le_of_ble_eq_true rfl⟩) ⟨fun a U g mk q => by obtain ⟨q0, q1, qP, qK, qD, qE⟩ := q; exact ⟨q0, q1, qP, va_K.moved (u := U) (U := U.calling g mk a) (Vm.Alike.refl U.vm) qK, qD, xE.same rfl qE⟩, va_recv hKc hPc (ci := 7) (q0 := 0) rfl rfl, fun U hU hW => ⟨rfl, by rw [hU], by rw [hU]; exact hPc, va_K.moved hW.alike hKc, hDc.weaken (fun _ _ _ _ => trivial), xE.warm hW hE⟩⟩ rfl rfl hl.1 rfl (lv_room (Nat.le_of_ble_eq_true rfl)) dX7_wordAmong_46 ⟨Nat.le_of_ble_eq_true rfl, Nat.le_of_ble_eq_true rfl⟩) hS (fun q _ h => hFc q h) hFc (fun r_4 u t H1 locs ht hvm hw hB hz1 hk1 hS => ?_)
  obtain ⟨hP1, hK1, hD1⟩ := hB
  rw [ht] at hP1
  have hK1 := va_K.moved hvm.symm hK1
  obtain ⟨hP, hD⟩ := va_join (wr := []) (w1 := [(h0, .inr (7, [.ref tx, .int 0, .int 0, .int 0]))]) hP hD [0] [] rfl rfl (by decide) (by decide) hk1 hFc hP1 hD1
  generalize H1 = H at hP hS ⊢
  have hP : va_P (dC, dI) classes [(h0, .inr (7, [.ref tx, .int 0, .int 0, .int 0]))] H := hP
  have hD : va_D A [(h0, .inr (7, [.ref tx, .int 0, .int 0, .int 0]))] := hD
  obtain rfl : r_4 = (-1) := hw
  refine lv_iload hx hb dX7_wordAmong_49 (lv_at hl 0 rfl) ?_
  refine lv_icmp_ne (tgt := 58) hx hb dX7_wordAmong_51 (by decide) (fun _ => ?_) (fun c9 => absurd c9 (by decide))
  refine lv_iconst (v := 0) hx hb dX7_wordAmong_58 (by decide) ?_
  refine lv_istore (lv' := [(4, .int 0), (6, .int 100), (5, .int 0), (3, .int 0), (2, .int 0), (0, .ref h0), (1, .ref (kA 0))]) hx hb dX7_wordAmong_59 hl (by decide) rfl (fun ls hl => ?_)
  refine lv_iinc (v := 1) (lv' := [(3, .int 1), (4, .int 0), (6, .int 100), (5, .int 0), (2, .int 0), (0, .ref h0), (1, .ref (kA 0))]) hx hb dX7_wordAmong_61 hl (k := 3) rfl (by decide) (by decide) rfl (fun ls hl => ?_)
  refine lv_goto (tgt := 98) hx hb dX7_wordAmong_64 (by decide) ?_
  refine lv_iinc (v := 1) (lv' := [(5, .int 1), (3, .int 1), (4, .int 0), (6, .int 100), (2, .int 0), (0, .ref h0), (1, .ref (kA 0))]) hx hb dX7_wordAmong_98 hl (k := 3) rfl (by decide) (by decide) rfl (fun ls hl => ?_)
  refine lv_goto (tgt := 10) hx hb dX7_wordAmong_101 (by decide) ?_
  refine lv_iload hx hb dX7_wordAmong_10 (lv_at hl 0 rfl) ?_
  refine lv_aload_n hx hb dX7_wordAmong_12 rfl (lv_at hl 6 rfl) ?_
  have hPc := hP.sub (ws' := []) [] rfl
  have hDc := hD.sub (ws' := []) [] (by decide) rfl
  have hKc := hK.sub (tys' := []) [] rfl
  have hFc := va_free (wc := []) hD hS hA [] rfl
  refine va_calli (va_runV (As := []) (rest := [.int 1]) ⟨hx, hb, hml, hown, hq⟩ (c_J_length_0 l dC dI _ kA vA  ) (cwV 0 hq (gV qw_551 qw_552 qw_553 qw_133 qw_554) rfl rfl rfl (by decide +kernel) ⟨Nat.le_of_ble_eq_true rfl, Nat.le_of_ble_eq_true rfl⟩) ⟨fun a U g mk q => by obtain ⟨q0, q1, qP, qK, qD, qE, qT⟩ := q; exact ⟨q0, q1, qP, va_K.moved (u := U) (U := U.calling g mk a) (Vm.Alike.refl U.vm) qK, qD, xE.same rfl qE, xT.same rfl qT⟩, xT_recv hT hS (i := 0) (by decide), fun U hU hW => ⟨rfl, by rw [hU], by rw [hU]; exact hPc, va_K.moved hW.alike hKc, hDc.weaken (fun _ _ _ _ => trivial), xE.warm hW hE, by rw [hU]; exact xT.call hW hT hS hFc⟩⟩ rfl rfl hl.1 rfl (lv_room (Nat.le_of_ble_eq_true rfl)) dX7_wordAmong_13 ⟨Nat.le_of_ble_eq_true rfl, Nat.le_of_ble_eq_true rfl⟩) hS (fun q _ h => hFc q h) hFc (fun r_5 u t H1 locs ht hvm hw hB hz1 hk1 hS => ?_)
  obtain ⟨hP1, hK1, hD1⟩ := hB
  rw [ht] at hP1
  have hK1 := va_K.moved hvm.symm hK1
  obtain ⟨hP, hD⟩ := va_join (wr := [(h0, .inr (7, [.ref tx, .int 0, .int 0, .int 0]))]) (w1 := []) hP hD [] [0] rfl rfl (by decide) (by decide) hk1 hFc hP1 hD1
  generalize H1 = H at hP hS ⊢
  have hP : va_P (dC, dI) classes [(h0, .inr (7, [.ref tx, .int 0, .int 0, .int 0]))] H := hP
  have hD : va_D A [(h0, .inr (7, [.ref tx, .int 0, .int 0, .int 0]))] := hD
  obtain rfl : r_5 = 24 := hw
  refine lv_icmp_ge (tgt := 104) hx hb dX7_wordAmong_16 (by decide) (fun c9 => absurd c9 (by decide)) (fun _ => ?_)
  refine lv_aload_n hx hb dX7_wordAmong_19 rfl (lv_at hl 6 rfl) ?_
  refine lv_iload hx hb dX7_wordAmong_20 (lv_at hl 0 rfl) ?_
  have hPc := hP.sub (ws' := []) [] rfl
  have hDc := hD.sub (ws' := []) [] (by decide) rfl
  have hKc := hK.sub (tys' := []) [] rfl
  have hFc := va_free (wc := []) hD hS hA [] rfl
  refine va_calli (va_runV (As := [.int 1]) (rest := []) ⟨hx, hb, hml, hown, hq⟩ (c_J_charAt_0 l dC dI _ kA vA 1 (by decide) (by decide)) (cwV 1 hq (gV qw_561 qw_562 qw_563 qw_133 qw_564) rfl rfl rfl (by decide +kernel) ⟨Nat.le_of_ble_eq_true rfl, Nat.le_of_ble_eq_true rfl⟩) ⟨fun a U g mk q => by obtain ⟨q0, q1, qP, qK, qD, qE, qT⟩ := q; exact ⟨q0, q1, qP, va_K.moved (u := U) (U := U.calling g mk a) (Vm.Alike.refl U.vm) qK, qD, xE.same rfl qE, xT.same rfl qT⟩, xT_recv hT hS (i := 0) (by decide), fun U hU hW => ⟨rfl, by rw [hU], by rw [hU]; exact hPc, va_K.moved hW.alike hKc, hDc.weaken (fun _ _ _ _ => trivial), xE.warm hW hE, by rw [hU]; exact xT.call hW hT hS hFc⟩⟩ rfl rfl hl.1 rfl (lv_room (Nat.le_of_ble_eq_true rfl)) dX7_wordAmong_22 ⟨Nat.le_of_ble_eq_true rfl, Nat.le_of_ble_eq_true rfl⟩) hS (fun q _ h => hFc q h) hFc (fun r_6 u t H1 locs ht hvm hw hB hz1 hk1 hS => ?_)
  obtain ⟨hP1, hK1, hD1⟩ := hB
  rw [ht] at hP1
  have hK1 := va_K.moved hvm.symm hK1
  obtain ⟨hP, hD⟩ := va_join (wr := [(h0, .inr (7, [.ref tx, .int 0, .int 0, .int 0]))]) (w1 := []) hP hD [] [0] rfl rfl (by decide) (by decide) hk1 hFc hP1 hD1
  generalize H1 = H at hP hS ⊢
  have hP : va_P (dC, dI) classes [(h0, .inr (7, [.ref tx, .int 0, .int 0, .int 0]))] H := hP
  have hD : va_D A [(h0, .inr (7, [.ref tx, .int 0, .int 0, .int 0]))] := hD
  obtain rfl : r_6 = 105 := hw.trans (by decide)
  refine lv_istore (lv' := [(6, .int 105), (5, .int 1), (3, .int 1), (4, .int 0), (2, .int 0), (0, .ref h0), (1, .ref (kA 0))]) hx hb dX7_wordAmong_25 hl (by decide) rfl (fun ls hl => ?_)
  refine lv_iload hx hb dX7_wordAmong_27 (lv_at hl 0 rfl) ?_
  refine lv_bipush (v := 32) hx hb dX7_wordAmong_29 (by decide) ?_
  refine lv_icmp_eq (tgt := 67) hx hb dX7_wordAmong_31 (by decide) (fun c9 => absurd c9 (by decide)) (fun _ => ?_)
  refine lv_iload hx hb dX7_wordAmong_34 (lv_at hl 3 rfl) ?_
  refine lv_if_eq (tgt := 58) hx hb dX7_wordAmong_36 (by decide) (fun _ => ?_) (fun c9 => absurd c9 (by decide))
  refine lv_iconst (v := 0) hx hb dX7_wordAmong_58 (by decide) ?_
  refine lv_istore (lv' := [(4, .int 0), (6, .int 105), (5, .int 1), (3, .int 1), (2, .int 0), (0, .ref h0), (1, .ref (kA 0))]) hx hb dX7_wordAmong_59 hl (by decide) rfl (fun ls hl => ?_)
  refine lv_iinc (v := 2) (lv' := [(3, .int 2), (4, .int 0), (6, .int 105), (5, .int 1), (2, .int 0), (0, .ref h0), (1, .ref (kA 0))]) hx hb dX7_wordAmong_61 hl (k := 3) rfl (by decide) (by decide) rfl (fun ls hl => ?_)
  refine lv_goto (tgt := 98) hx hb dX7_wordAmong_64 (by decide) ?_
  refine lv_iinc (v := 2) (lv' := [(5, .int 2), (3, .int 2), (4, .int 0), (6, .int 105), (2, .int 0), (0, .ref h0), (1, .ref (kA 0))]) hx hb dX7_wordAmong_98 hl (k := 3) rfl (by decide) (by decide) rfl (fun ls hl => ?_)
  refine lv_goto (tgt := 10) hx hb dX7_wordAmong_101 (by decide) ?_
  refine lv_iload hx hb dX7_wordAmong_10 (lv_at hl 0 rfl) ?_
  refine lv_aload_n hx hb dX7_wordAmong_12 rfl (lv_at hl 6 rfl) ?_
  have hPc := hP.sub (ws' := []) [] rfl
  have hDc := hD.sub (ws' := []) [] (by decide) rfl
  have hKc := hK.sub (tys' := []) [] rfl
  have hFc := va_free (wc := []) hD hS hA [] rfl
  refine va_calli (va_runV (As := []) (rest := [.int 2]) ⟨hx, hb, hml, hown, hq⟩ (c_J_length_0 l dC dI _ kA vA  ) (cwV 0 hq (gV qw_551 qw_552 qw_553 qw_133 qw_554) rfl rfl rfl (by decide +kernel) ⟨Nat.le_of_ble_eq_true rfl, Nat.le_of_ble_eq_true rfl⟩) ⟨fun a U g mk q => by obtain ⟨q0, q1, qP, qK, qD, qE, qT⟩ := q; exact ⟨q0, q1, qP, va_K.moved (u := U) (U := U.calling g mk a) (Vm.Alike.refl U.vm) qK, qD, xE.same rfl qE, xT.same rfl qT⟩, xT_recv hT hS (i := 0) (by decide), fun U hU hW => ⟨rfl, by rw [hU], by rw [hU]; exact hPc, va_K.moved hW.alike hKc, hDc.weaken (fun _ _ _ _ => trivial), xE.warm hW hE, by rw [hU]; exact xT.call hW hT hS hFc⟩⟩ rfl rfl hl.1 rfl (lv_room (Nat.le_of_ble_eq_true rfl)) dX7_wordAmong_13 ⟨Nat.le_of_ble_eq_true rfl, Nat.le_of_ble_eq_true rfl⟩) hS (fun q _ h => hFc q h) hFc (fun r_7 u t H1 locs ht hvm hw hB hz1 hk1 hS => ?_)
  obtain ⟨hP1, hK1, hD1⟩ := hB
  rw [ht] at hP1
  have hK1 := va_K.moved hvm.symm hK1
  obtain ⟨hP, hD⟩ := va_join (wr := [(h0, .inr (7, [.ref tx, .int 0, .int 0, .int 0]))]) (w1 := []) hP hD [] [0] rfl rfl (by decide) (by decide) hk1 hFc hP1 hD1
  generalize H1 = H at hP hS ⊢
  have hP : va_P (dC, dI) classes [(h0, .inr (7, [.ref tx, .int 0, .int 0, .int 0]))] H := hP
  have hD : va_D A [(h0, .inr (7, [.ref tx, .int 0, .int 0, .int 0]))] := hD
  obtain rfl : r_7 = 24 := hw
  refine lv_icmp_ge (tgt := 104) hx hb dX7_wordAmong_16 (by decide) (fun c9 => absurd c9 (by decide)) (fun _ => ?_)
  refine lv_aload_n hx hb dX7_wordAmong_19 rfl (lv_at hl 6 rfl) ?_
  refine lv_iload hx hb dX7_wordAmong_20 (lv_at hl 0 rfl) ?_
  have hPc := hP.sub (ws' := []) [] rfl
  have hDc := hD.sub (ws' := []) [] (by decide) rfl
  have hKc := hK.sub (tys' := []) [] rfl
  have hFc := va_free (wc := []) hD hS hA [] rfl
  refine va_calli (va_runV (As := [.int 2]) (rest := []) ⟨hx, hb, hml, hown, hq⟩ (c_J_charAt_0 l dC dI _ kA vA 2 (by decide) (by decide)) (cwV 1 hq (gV qw_561 qw_562 qw_563 qw_133 qw_564) rfl rfl rfl (by decide +kernel) ⟨Nat.le_of_ble_eq_true rfl, Nat.le_of_ble_eq_true rfl⟩) ⟨fun a U g mk q => by obtain ⟨q0, q1, qP, qK, qD, qE, qT⟩ := q; exact ⟨q0, q1, qP, va_K.moved (u := U) (U := U.calling g mk a) (Vm.Alike.refl U.vm) qK, qD, xE.same rfl qE, xT.same rfl qT⟩, xT_recv hT hS (i := 0) (by decide), fun U hU hW => ⟨rfl, by rw [hU], by rw [hU]; exact hPc, va_K.moved hW.alike hKc, hDc.weaken (fun _ _ _ _ => trivial), xE.warm hW hE, by rw [hU]; exact xT.call hW hT hS hFc⟩⟩ rfl rfl hl.1 rfl (lv_room (Nat.le_of_ble_eq_true rfl)) dX7_wordAmong_22 ⟨Nat.le_of_ble_eq_true rfl, Nat.le_of_ble_eq_true rfl⟩) hS (fun q _ h => hFc q h) hFc (fun r_8 u t H1 locs ht hvm hw hB hz1 hk1 hS => ?_)
  obtain ⟨hP1, hK1, hD1⟩ := hB
  rw [ht] at hP1
  have hK1 := va_K.moved hvm.symm hK1
  obtain ⟨hP, hD⟩ := va_join (wr := [(h0, .inr (7, [.ref tx, .int 0, .int 0, .int 0]))]) (w1 := []) hP hD [] [0] rfl rfl (by decide) (by decide) hk1 hFc hP1 hD1
  generalize H1 = H at hP hS ⊢
  have hP : va_P (dC, dI) classes [(h0, .inr (7, [.ref tx, .int 0, .int 0, .int 0]))] H := hP
  have hD : va_D A [(h0, .inr (7, [.ref tx, .int 0, .int 0, .int 0]))] := hD
  obtain rfl : r_8 = 110 := hw.trans (by decide)
  refine lv_istore (lv' := [(6, .int 110), (5, .int 2), (3, .int 2), (4, .int 0), (2, .int 0), (0, .ref h0), (1, .ref (kA 0))]) hx hb dX7_wordAmong_25 hl (by decide) rfl (fun ls hl => ?_)
  refine lv_iload hx hb dX7_wordAmong_27 (lv_at hl 0 rfl) ?_
  refine lv_bipush (v := 32) hx hb dX7_wordAmong_29 (by decide) ?_
  refine lv_icmp_eq (tgt := 67) hx hb dX7_wordAmong_31 (by decide) (fun c9 => absurd c9 (by decide)) (fun _ => ?_)
  refine lv_iload hx hb dX7_wordAmong_34 (lv_at hl 3 rfl) ?_
  refine lv_if_eq (tgt := 58) hx hb dX7_wordAmong_36 (by decide) (fun _ => ?_) (fun c9 => absurd c9 (by decide))
  refine lv_iconst (v := 0) hx hb dX7_wordAmong_58 (by decide) ?_
  refine lv_istore (lv' := [(4, .int 0), (6, .int 110), (5, .int 2), (3, .int 2), (2, .int 0), (0, .ref h0), (1, .ref (kA 0))]) hx hb dX7_wordAmong_59 hl (by decide) rfl (fun ls hl => ?_)
  refine lv_iinc (v := 3) (lv' := [(3, .int 3), (4, .int 0), (6, .int 110), (5, .int 2), (2, .int 0), (0, .ref h0), (1, .ref (kA 0))]) hx hb dX7_wordAmong_61 hl (k := 3) rfl (by decide) (by decide) rfl (fun ls hl => ?_)
  refine lv_goto (tgt := 98) hx hb dX7_wordAmong_64 (by decide) ?_
  refine lv_iinc (v := 3) (lv' := [(5, .int 3), (3, .int 3), (4, .int 0), (6, .int 110), (2, .int 0), (0, .ref h0), (1, .ref (kA 0))]) hx hb dX7_wordAmong_98 hl (k := 3) rfl (by decide) (by decide) rfl (fun ls hl => ?_)
  refine lv_goto (tgt := 10) hx hb dX7_wordAmong_101 (by decide) ?_
  refine lv_iload hx hb dX7_wordAmong_10 (lv_at hl 0 rfl) ?_
  refine lv_aload_n hx hb dX7_wordAmong_12 rfl (lv_at hl 6 rfl) ?_
  have hPc := hP.sub (ws' := []) [] rfl
  have hDc := hD.sub (ws' := []) [] (by decide) rfl
  have hKc := hK.sub (tys' := []) [] rfl
  have hFc := va_free (wc := []) hD hS hA [] rfl
  refine va_calli (va_runV (As := []) (rest := [.int 3]) ⟨hx, hb, hml, hown, hq⟩ (c_J_length_0 l dC dI _ kA vA  ) (cwV 0 hq (gV qw_551 qw_552 qw_553 qw_133 qw_554) rfl rfl rfl (by decide +kernel) ⟨Nat.le_of_ble_eq_true rfl, Nat.le_of_ble_eq_true rfl⟩) ⟨fun a U g mk q => by obtain ⟨q0, q1, qP, qK, qD, qE, qT⟩ := q; exact ⟨q0, q1, qP, va_K.moved (u := U) (U := U.calling g mk a) (Vm.Alike.refl U.vm) qK, qD, xE.same rfl qE, xT.same rfl qT⟩, xT_recv hT hS (i := 0) (by decide), fun U hU hW => ⟨rfl, by rw [hU], by rw [hU]; exact hPc, va_K.moved hW.alike hKc, hDc.weaken (fun _ _ _ _ => trivial), xE.warm hW hE, by rw [hU]; exact xT.call hW hT hS hFc⟩⟩ rfl rfl hl.1 rfl (lv_room (Nat.le_of_ble_eq_true rfl)) dX7_wordAmong_13 ⟨Nat.le_of_ble_eq_true rfl, Nat.le_of_ble_eq_true rfl⟩) hS (fun q _ h => hFc q h) hFc (fun r_9 u t H1 locs ht hvm hw hB hz1 hk1 hS => ?_)
  obtain ⟨hP1, hK1, hD1⟩ := hB
  rw [ht] at hP1
  have hK1 := va_K.moved hvm.symm hK1
  obtain ⟨hP, hD⟩ := va_join (wr := [(h0, .inr (7, [.ref tx, .int 0, .int 0, .int 0]))]) (w1 := []) hP hD [] [0] rfl rfl (by decide) (by decide) hk1 hFc hP1 hD1
  generalize H1 = H at hP hS ⊢
  have hP : va_P (dC, dI) classes [(h0, .inr (7, [.ref tx, .int 0, .int 0, .int 0]))] H := hP
  have hD : va_D A [(h0, .inr (7, [.ref tx, .int 0, .int 0, .int 0]))] := hD
  obtain rfl : r_9 = 24 := hw
  refine lv_icmp_ge (tgt := 104) hx hb dX7_wordAmong_16 (by decide) (fun c9 => absurd c9 (by decide)) (fun _ => ?_)
  refine lv_aload_n hx hb dX7_wordAmong_19 rfl (lv_at hl 6 rfl) ?_
  refine lv_iload hx hb dX7_wordAmong_20 (lv_at hl 0 rfl) ?_
  have hPc := hP.sub (ws' := []) [] rfl
  have hDc := hD.sub (ws' := []) [] (by decide) rfl
  have hKc := hK.sub (tys' := []) [] rfl
  have hFc := va_free (wc := []) hD hS hA [] rfl
  refine va_calli (va_runV (As := [.int 3]) (rest := []) ⟨hx, hb, hml, hown, hq⟩ (c_J_charAt_0 l dC dI _ kA vA 3 (by decide) (by decide)) (cwV 1 hq (gV qw_561 qw_562 qw_563 qw_133 qw_564) rfl rfl rfl (by decide +kernel) ⟨Nat.le_of_ble_eq_true rfl, Nat.le_of_ble_eq_true rfl⟩) ⟨fun a U g mk q => by obtain ⟨q0, q1, qP, qK, qD, qE, qT⟩ := q; exact ⟨q0, q1, qP, va_K.moved (u := U) (U := U.calling g mk a) (Vm.Alike.refl U.vm) qK, qD, xE.same rfl qE, xT.same rfl qT⟩, xT_recv hT hS (i := 0) (by decide), fun U hU hW => ⟨rfl, by rw [hU], by rw [hU]; exact hPc, va_K.moved hW.alike hKc, hDc.weaken (fun _ _ _ _ => trivial), xE.warm hW hE, by rw [hU]; exact xT.call hW hT hS hFc⟩⟩ rfl rfl hl.1 rfl (lv_room (Nat.le_of_ble_eq_true rfl)) dX7_wordAmong_22 ⟨Nat.le_of_ble_eq_true rfl, Nat.le_of_ble_eq_true rfl⟩) hS (fun q _ h => hFc q h) hFc (fun r_10 u t H1 locs ht hvm hw hB hz1 hk1 hS => ?_)
  obtain ⟨hP1, hK1, hD1⟩ := hB
  rw [ht] at hP1
  have hK1 := va_K.moved hvm.symm hK1
  obtain ⟨hP, hD⟩ := va_join (wr := [(h0, .inr (7, [.ref tx, .int 0, .int 0, .int 0]))]) (w1 := []) hP hD [] [0] rfl rfl (by decide) (by decide) hk1 hFc hP1 hD1
  generalize H1 = H at hP hS ⊢
  have hP : va_P (dC, dI) classes [(h0, .inr (7, [.ref tx, .int 0, .int 0, .int 0]))] H := hP
  have hD : va_D A [(h0, .inr (7, [.ref tx, .int 0, .int 0, .int 0]))] := hD
  obtain rfl : r_10 = 110 := hw.trans (by decide)
  refine lv_istore (lv' := [(6, .int 110), (5, .int 3), (3, .int 3), (4, .int 0), (2, .int 0), (0, .ref h0), (1, .ref (kA 0))]) hx hb dX7_wordAmong_25 hl (by decide) rfl (fun ls hl => ?_)
  refine lv_iload hx hb dX7_wordAmong_27 (lv_at hl 0 rfl) ?_
  refine lv_bipush (v := 32) hx hb dX7_wordAmong_29 (by decide) ?_
  refine lv_icmp_eq (tgt := 67) hx hb dX7_wordAmong_31 (by decide) (fun c9 => absurd c9 (by decide)) (fun _ => ?_)
  refine lv_iload hx hb dX7_wordAmong_34 (lv_at hl 3 rfl) ?_
  refine lv_if_eq (tgt := 58) hx hb dX7_wordAmong_36 (by decide) (fun _ => ?_) (fun c9 => absurd c9 (by decide))
  refine lv_iconst (v := 0) hx hb dX7_wordAmong_58 (by decide) ?_
  refine lv_istore (lv' := [(4, .int 0), (6, .int 110), (5, .int 3), (3, .int 3), (2, .int 0), (0, .ref h0), (1, .ref (kA 0))]) hx hb dX7_wordAmong_59 hl (by decide) rfl (fun ls hl => ?_)
  refine lv_iinc (v := 4) (lv' := [(3, .int 4), (4, .int 0), (6, .int 110), (5, .int 3), (2, .int 0), (0, .ref h0), (1, .ref (kA 0))]) hx hb dX7_wordAmong_61 hl (k := 3) rfl (by decide) (by decide) rfl (fun ls hl => ?_)
  refine lv_goto (tgt := 98) hx hb dX7_wordAmong_64 (by decide) ?_
  refine lv_iinc (v := 4) (lv' := [(5, .int 4), (3, .int 4), (4, .int 0), (6, .int 110), (2, .int 0), (0, .ref h0), (1, .ref (kA 0))]) hx hb dX7_wordAmong_98 hl (k := 3) rfl (by decide) (by decide) rfl (fun ls hl => ?_)
  refine lv_goto (tgt := 10) hx hb dX7_wordAmong_101 (by decide) ?_
  refine lv_iload hx hb dX7_wordAmong_10 (lv_at hl 0 rfl) ?_
  refine lv_aload_n hx hb dX7_wordAmong_12 rfl (lv_at hl 6 rfl) ?_
  have hPc := hP.sub (ws' := []) [] rfl
  have hDc := hD.sub (ws' := []) [] (by decide) rfl
  have hKc := hK.sub (tys' := []) [] rfl
  have hFc := va_free (wc := []) hD hS hA [] rfl
  refine va_calli (va_runV (As := []) (rest := [.int 4]) ⟨hx, hb, hml, hown, hq⟩ (c_J_length_0 l dC dI _ kA vA  ) (cwV 0 hq (gV qw_551 qw_552 qw_553 qw_133 qw_554) rfl rfl rfl (by decide +kernel) ⟨Nat.le_of_ble_eq_true rfl, Nat.le_of_ble_eq_true rfl⟩) ⟨fun a U g mk q => by obtain ⟨q0, q1, qP, qK, qD, qE, qT⟩ := q; exact ⟨q0, q1, qP, va_K.moved (u := U) (U := U.calling g mk a) (Vm.Alike.refl U.vm) qK, qD, xE.same rfl qE, xT.same rfl qT⟩, xT_recv hT hS (i := 0) (by decide), fun U hU hW => ⟨rfl, by rw [hU], by rw [hU]; exact hPc, va_K.moved hW.alike hKc, hDc.weaken (fun _ _ _ _ => trivial), xE.warm hW hE, by rw [hU]; exact xT.call hW hT hS hFc⟩⟩ rfl rfl hl.1 rfl (lv_room (Nat.le_of_ble_eq_true rfl)) dX7_wordAmong_13 ⟨Nat.le_of_ble_eq_true rfl, Nat.le_of_ble_eq_true rfl⟩) hS (fun q _ h => hFc q h) hFc (fun r_11 u t H1 locs ht hvm hw hB hz1 hk1 hS => ?_)
  obtain ⟨hP1, hK1, hD1⟩ := hB
  rw [ht] at hP1
  have hK1 := va_K.moved hvm.symm hK1
  obtain ⟨hP, hD⟩ := va_join (wr := [(h0, .inr (7, [.ref tx, .int 0, .int 0, .int 0]))]) (w1 := []) hP hD [] [0] rfl rfl (by decide) (by decide) hk1 hFc hP1 hD1
  generalize H1 = H at hP hS ⊢
  have hP : va_P (dC, dI) classes [(h0, .inr (7, [.ref tx, .int 0, .int 0, .int 0]))] H := hP
  have hD : va_D A [(h0, .inr (7, [.ref tx, .int 0, .int 0, .int 0]))] := hD
  obtain rfl : r_11 = 24 := hw
  refine lv_icmp_ge (tgt := 104) hx hb dX7_wordAmong_16 (by decide) (fun c9 => absurd c9 (by decide)) (fun _ => ?_)
  refine lv_aload_n hx hb dX7_wordAmong_19 rfl (lv_at hl 6 rfl) ?_
  refine lv_iload hx hb dX7_wordAmong_20 (lv_at hl 0 rfl) ?_
  have hPc := hP.sub (ws' := []) [] rfl
  have hDc := hD.sub (ws' := []) [] (by decide) rfl
  have hKc := hK.sub (tys' := []) [] rfl
  have hFc := va_free (wc := []) hD hS hA [] rfl
  refine va_calli (va_runV (As := [.int 4]) (rest := []) ⟨hx, hb, hml, hown, hq⟩ (c_J_charAt_0 l dC dI _ kA vA 4 (by decide) (by decide)) (cwV 1 hq (gV qw_561 qw_562 qw_563 qw_133 qw_564) rfl rfl rfl (by decide +kernel) ⟨Nat.le_of_ble_eq_true rfl, Nat.le_of_ble_eq_true rfl⟩) ⟨fun a U g mk q => by obtain ⟨q0, q1, qP, qK, qD, qE, qT⟩ := q; exact ⟨q0, q1, qP, va_K.moved (u := U) (U := U.calling g mk a) (Vm.Alike.refl U.vm) qK, qD, xE.same rfl qE, xT.same rfl qT⟩, xT_recv hT hS (i := 0) (by decide), fun U hU hW => ⟨rfl, by rw [hU], by rw [hU]; exact hPc, va_K.moved hW.alike hKc, hDc.weaken (fun _ _ _ _ => trivial), xE.warm hW hE, by rw [hU]; exact xT.call hW hT hS hFc⟩⟩ rfl rfl hl.1 rfl (lv_room (Nat.le_of_ble_eq_true rfl)) dX7_wordAmong_22 ⟨Nat.le_of_ble_eq_true rfl, Nat.le_of_ble_eq_true rfl⟩) hS (fun q _ h => hFc q h) hFc (fun r_12 u t H1 locs ht hvm hw hB hz1 hk1 hS => ?_)
  obtain ⟨hP1, hK1, hD1⟩ := hB
  rw [ht] at hP1
  have hK1 := va_K.moved hvm.symm hK1
  obtain ⟨hP, hD⟩ := va_join (wr := [(h0, .inr (7, [.ref tx, .int 0, .int 0, .int 0]))]) (w1 := []) hP hD [] [0] rfl rfl (by decide) (by decide) hk1 hFc hP1 hD1
  generalize H1 = H at hP hS ⊢
  have hP : va_P (dC, dI) classes [(h0, .inr (7, [.ref tx, .int 0, .int 0, .int 0]))] H := hP
  have hD : va_D A [(h0, .inr (7, [.ref tx, .int 0, .int 0, .int 0]))] := hD
  obtain rfl : r_12 = 101 := hw.trans (by decide)
  refine lv_istore (lv' := [(6, .int 101), (5, .int 4), (3, .int 4), (4, .int 0), (2, .int 0), (0, .ref h0), (1, .ref (kA 0))]) hx hb dX7_wordAmong_25 hl (by decide) rfl (fun ls hl => ?_)
  refine lv_iload hx hb dX7_wordAmong_27 (lv_at hl 0 rfl) ?_
  refine lv_bipush (v := 32) hx hb dX7_wordAmong_29 (by decide) ?_
  refine lv_icmp_eq (tgt := 67) hx hb dX7_wordAmong_31 (by decide) (fun c9 => absurd c9 (by decide)) (fun _ => ?_)
  refine lv_iload hx hb dX7_wordAmong_34 (lv_at hl 3 rfl) ?_
  refine lv_if_eq (tgt := 58) hx hb dX7_wordAmong_36 (by decide) (fun _ => ?_) (fun c9 => absurd c9 (by decide))
  refine lv_iconst (v := 0) hx hb dX7_wordAmong_58 (by decide) ?_
  refine lv_istore (lv' := [(4, .int 0), (6, .int 101), (5, .int 4), (3, .int 4), (2, .int 0), (0, .ref h0), (1, .ref (kA 0))]) hx hb dX7_wordAmong_59 hl (by decide) rfl (fun ls hl => ?_)
  refine lv_iinc (v := 5) (lv' := [(3, .int 5), (4, .int 0), (6, .int 101), (5, .int 4), (2, .int 0), (0, .ref h0), (1, .ref (kA 0))]) hx hb dX7_wordAmong_61 hl (k := 3) rfl (by decide) (by decide) rfl (fun ls hl => ?_)
  refine lv_goto (tgt := 98) hx hb dX7_wordAmong_64 (by decide) ?_
  refine lv_iinc (v := 5) (lv' := [(5, .int 5), (3, .int 5), (4, .int 0), (6, .int 101), (2, .int 0), (0, .ref h0), (1, .ref (kA 0))]) hx hb dX7_wordAmong_98 hl (k := 3) rfl (by decide) (by decide) rfl (fun ls hl => ?_)
  refine lv_goto (tgt := 10) hx hb dX7_wordAmong_101 (by decide) ?_
  refine lv_iload hx hb dX7_wordAmong_10 (lv_at hl 0 rfl) ?_
  refine lv_aload_n hx hb dX7_wordAmong_12 rfl (lv_at hl 6 rfl) ?_
  have hPc := hP.sub (ws' := []) [] rfl
  have hDc := hD.sub (ws' := []) [] (by decide) rfl
  have hKc := hK.sub (tys' := []) [] rfl
  have hFc := va_free (wc := []) hD hS hA [] rfl
  refine va_calli (va_runV (As := []) (rest := [.int 5]) ⟨hx, hb, hml, hown, hq⟩ (c_J_length_0 l dC dI _ kA vA  ) (cwV 0 hq (gV qw_551 qw_552 qw_553 qw_133 qw_554) rfl rfl rfl (by decide +kernel) ⟨Nat.le_of_ble_eq_true rfl, Nat.le_of_ble_eq_true rfl⟩) ⟨fun a U g mk q => by obtain ⟨q0, q1, qP, qK, qD, qE, qT⟩ := q; exact ⟨q0, q1, qP, va_K.moved (u := U) (U := U.calling g mk a) (Vm.Alike.refl U.vm) qK, qD, xE.same rfl qE, xT.same rfl qT⟩, xT_recv hT hS (i := 0) (by decide), fun U hU hW => ⟨rfl, by rw [hU], by rw [hU]; exact hPc, va_K.moved hW.alike hKc, hDc.weaken (fun _ _ _ _ => trivial), xE.warm hW hE, by rw [hU]; exact xT.call hW hT hS hFc⟩⟩ rfl rfl hl.1 rfl (lv_room (Nat.le_of_ble_eq_true rfl)) dX7_wordAmong_13 ⟨Nat.le_of_ble_eq_true rfl, Nat.le_of_ble_eq_true rfl⟩) hS (fun q _ h => hFc q h) hFc (fun r_13 u t H1 locs ht hvm hw hB hz1 hk1 hS => ?_)
  obtain ⟨hP1, hK1, hD1⟩ := hB
  rw [ht] at hP1
  have hK1 := va_K.moved hvm.symm hK1
  obtain ⟨hP, hD⟩ := va_join (wr := [(h0, .inr (7, [.ref tx, .int 0, .int 0, .int 0]))]) (w1 := []) hP hD [] [0] rfl rfl (by decide) (by decide) hk1 hFc hP1 hD1
  generalize H1 = H at hP hS ⊢
  have hP : va_P (dC, dI) classes [(h0, .inr (7, [.ref tx, .int 0, .int 0, .int 0]))] H := hP
  have hD : va_D A [(h0, .inr (7, [.ref tx, .int 0, .int 0, .int 0]))] := hD
  obtain rfl : r_13 = 24 := hw
  refine lv_icmp_ge (tgt := 104) hx hb dX7_wordAmong_16 (by decide) (fun c9 => absurd c9 (by decide)) (fun _ => ?_)
  refine lv_aload_n hx hb dX7_wordAmong_19 rfl (lv_at hl 6 rfl) ?_
  refine lv_iload hx hb dX7_wordAmong_20 (lv_at hl 0 rfl) ?_
  have hPc := hP.sub (ws' := []) [] rfl
  have hDc := hD.sub (ws' := []) [] (by decide) rfl
  have hKc := hK.sub (tys' := []) [] rfl
  have hFc := va_free (wc := []) hD hS hA [] rfl
  refine va_calli (va_runV (As := [.int 5]) (rest := []) ⟨hx, hb, hml, hown, hq⟩ (c_J_charAt_0 l dC dI _ kA vA 5 (by decide) (by decide)) (cwV 1 hq (gV qw_561 qw_562 qw_563 qw_133 qw_564) rfl rfl rfl (by decide +kernel) ⟨Nat.le_of_ble_eq_true rfl, Nat.le_of_ble_eq_true rfl⟩) ⟨fun a U g mk q => by obtain ⟨q0, q1, qP, qK, qD, qE, qT⟩ := q; exact ⟨q0, q1, qP, va_K.moved (u := U) (U := U.calling g mk a) (Vm.Alike.refl U.vm) qK, qD, xE.same rfl qE, xT.same rfl qT⟩, xT_recv hT hS (i := 0) (by decide), fun U hU hW => ⟨rfl, by rw [hU], by rw [hU]; exact hPc, va_K.moved hW.alike hKc, hDc.weaken (fun _ _ _ _ => trivial), xE.warm hW hE, by rw [hU]; exact xT.call hW hT hS hFc⟩⟩ rfl rfl hl.1 rfl (lv_room (Nat.le_of_ble_eq_true rfl)) dX7_wordAmong_22 ⟨Nat.le_of_ble_eq_true rfl, Nat.le_of_ble_eq_true rfl⟩) hS (fun q _ h => hFc q h) hFc (fun r_14 u t H1 locs ht hvm hw hB hz1 hk1 hS => ?_)
  obtain ⟨hP1, hK1, hD1⟩ := hB
  rw [ht] at hP1
  have hK1 := va_K.moved hvm.symm hK1
  obtain ⟨hP, hD⟩ := va_join (wr := [(h0, .inr (7, [.ref tx, .int 0, .int 0, .int 0]))]) (w1 := []) hP hD [] [0] rfl rfl (by decide) (by decide) hk1 hFc hP1 hD1
  generalize H1 = H at hP hS ⊢
  have hP : va_P (dC, dI) classes [(h0, .inr (7, [.ref tx, .int 0, .int 0, .int 0]))] H := hP
  have hD : va_D A [(h0, .inr (7, [.ref tx, .int 0, .int 0, .int 0]))] := hD
  obtain rfl : r_14 = 114 := hw.trans (by decide)
  refine lv_istore (lv' := [(6, .int 114), (5, .int 5), (3, .int 5), (4, .int 0), (2, .int 0), (0, .ref h0), (1, .ref (kA 0))]) hx hb dX7_wordAmong_25 hl (by decide) rfl (fun ls hl => ?_)
  refine lv_iload hx hb dX7_wordAmong_27 (lv_at hl 0 rfl) ?_
  refine lv_bipush (v := 32) hx hb dX7_wordAmong_29 (by decide) ?_
  refine lv_icmp_eq (tgt := 67) hx hb dX7_wordAmong_31 (by decide) (fun c9 => absurd c9 (by decide)) (fun _ => ?_)
  refine lv_iload hx hb dX7_wordAmong_34 (lv_at hl 3 rfl) ?_
  refine lv_if_eq (tgt := 58) hx hb dX7_wordAmong_36 (by decide) (fun _ => ?_) (fun c9 => absurd c9 (by decide))
  refine lv_iconst (v := 0) hx hb dX7_wordAmong_58 (by decide) ?_
  refine lv_istore (lv' := [(4, .int 0), (6, .int 114), (5, .int 5), (3, .int 5), (2, .int 0), (0, .ref h0), (1, .ref (kA 0))]) hx hb dX7_wordAmong_59 hl (by decide) rfl (fun ls hl => ?_)
  refine lv_iinc (v := 6) (lv' := [(3, .int 6), (4, .int 0), (6, .int 114), (5, .int 5), (2, .int 0), (0, .ref h0), (1, .ref (kA 0))]) hx hb dX7_wordAmong_61 hl (k := 3) rfl (by decide) (by decide) rfl (fun ls hl => ?_)
  refine lv_goto (tgt := 98) hx hb dX7_wordAmong_64 (by decide) ?_
  refine lv_iinc (v := 6) (lv' := [(5, .int 6), (3, .int 6), (4, .int 0), (6, .int 114), (2, .int 0), (0, .ref h0), (1, .ref (kA 0))]) hx hb dX7_wordAmong_98 hl (k := 3) rfl (by decide) (by decide) rfl (fun ls hl => ?_)
  refine lv_goto (tgt := 10) hx hb dX7_wordAmong_101 (by decide) ?_
  refine lv_iload hx hb dX7_wordAmong_10 (lv_at hl 0 rfl) ?_
  refine lv_aload_n hx hb dX7_wordAmong_12 rfl (lv_at hl 6 rfl) ?_
  have hPc := hP.sub (ws' := []) [] rfl
  have hDc := hD.sub (ws' := []) [] (by decide) rfl
  have hKc := hK.sub (tys' := []) [] rfl
  have hFc := va_free (wc := []) hD hS hA [] rfl
  refine va_calli (va_runV (As := []) (rest := [.int 6]) ⟨hx, hb, hml, hown, hq⟩ (c_J_length_0 l dC dI _ kA vA  ) (cwV 0 hq (gV qw_551 qw_552 qw_553 qw_133 qw_554) rfl rfl rfl (by decide +kernel) ⟨Nat.le_of_ble_eq_true rfl, Nat.le_of_ble_eq_true rfl⟩) ⟨fun a U g mk q => by obtain ⟨q0, q1, qP, qK, qD, qE, qT⟩ := q; exact ⟨q0, q1, qP, va_K.moved (u := U) (U := U.calling g mk a) (Vm.Alike.refl U.vm) qK, qD, xE.same rfl qE, xT.same rfl qT⟩, xT_recv hT hS (i := 0) (by decide), fun U hU hW => ⟨rfl, by rw [hU], by rw [hU]; exact hPc, va_K.moved hW.alike hKc, hDc.weaken (fun _ _ _ _ => trivial), xE.warm hW hE, by rw [hU]; exact xT.call hW hT hS hFc⟩⟩ rfl rfl hl.1 rfl (lv_room (Nat.le_of_ble_eq_true rfl)) dX7_wordAmong_13 ⟨Nat.le_of_ble_eq_true rfl, Nat.le_of_ble_eq_true rfl⟩) hS (fun q _ h => hFc q h) hFc (fun r_15 u t H1 locs ht hvm hw hB hz1 hk1 hS => ?_)
  obtain ⟨hP1, hK1, hD1⟩ := hB
  rw [ht] at hP1
  have hK1 := va_K.moved hvm.symm hK1
  obtain ⟨hP, hD⟩ := va_join (wr := [(h0, .inr (7, [.ref tx, .int 0, .int 0, .int 0]))]) (w1 := []) hP hD [] [0] rfl rfl (by decide) (by decide) hk1 hFc hP1 hD1
  generalize H1 = H at hP hS ⊢
  have hP : va_P (dC, dI) classes [(h0, .inr (7, [.ref tx, .int 0, .int 0, .int 0]))] H := hP
  have hD : va_D A [(h0, .inr (7, [.ref tx, .int 0, .int 0, .int 0]))] := hD
  obtain rfl : r_15 = 24 := hw
  refine lv_icmp_ge (tgt := 104) hx hb dX7_wordAmong_16 (by decide) (fun c9 => absurd c9 (by decide)) (fun _ => ?_)
  refine lv_aload_n hx hb dX7_wordAmong_19 rfl (lv_at hl 6 rfl) ?_
  refine lv_iload hx hb dX7_wordAmong_20 (lv_at hl 0 rfl) ?_
  have hPc := hP.sub (ws' := []) [] rfl
  have hDc := hD.sub (ws' := []) [] (by decide) rfl
  have hKc := hK.sub (tys' := []) [] rfl
  have hFc := va_free (wc := []) hD hS hA [] rfl
  refine va_calli (va_runV (As := [.int 6]) (rest := []) ⟨hx, hb, hml, hown, hq⟩ (c_J_charAt_0 l dC dI _ kA vA 6 (by decide) (by decide)) (cwV 1 hq (gV qw_561 qw_562 qw_563 qw_133 qw_564) rfl rfl rfl (by decide +kernel) ⟨Nat.le_of_ble_eq_true rfl, Nat.le_of_ble_eq_true rfl⟩) ⟨fun a U g mk q => by obtain ⟨q0, q1, qP, qK, qD, qE, qT⟩ := q; exact ⟨q0, q1, qP, va_K.moved (u := U) (U := U.calling g mk a) (Vm.Alike.refl U.vm) qK, qD, xE.same rfl qE, xT.same rfl qT⟩, xT_recv hT hS (i := 0) (by decide), fun U hU hW => ⟨rfl, by rw [hU], by rw [hU]; exact hPc, va_K.moved hW.alike hKc, hDc.weaken (fun _ _ _ _ => trivial), xE.warm hW hE, by rw [hU]; exact xT.call hW hT hS hFc⟩⟩ rfl rfl hl.1 rfl (lv_room (Nat.le_of_ble_eq_true rfl)) dX7_wordAmong_22 ⟨Nat.le_of_ble_eq_true rfl, Nat.le_of_ble_eq_true rfl⟩) hS (fun q _ h => hFc q h) hFc (fun r_16 u t H1 locs ht hvm hw hB hz1 hk1 hS => ?_)
  obtain ⟨hP1, hK1, hD1⟩ := hB
  rw [ht] at hP1
  have hK1 := va_K.moved hvm.symm hK1
  obtain ⟨hP, hD⟩ := va_join (wr := [(h0, .inr (7, [.ref tx, .int 0, .int 0, .int 0]))]) (w1 := []) hP hD [] [0] rfl rfl (by decide) (by decide) hk1 hFc hP1 hD1
  generalize H1 = H at hP hS ⊢
  have hP : va_P (dC, dI) classes [(h0, .inr (7, [.ref tx, .int 0, .int 0, .int 0]))] H := hP
  have hD : va_D A [(h0, .inr (7, [.ref tx, .int 0, .int 0, .int 0]))] := hD
  obtain rfl : r_16 = 32 := hw.trans (by decide)
  refine lv_istore (lv' := [(6, .int 32), (5, .int 6), (3, .int 6), (4, .int 0), (2, .int 0), (0, .ref h0), (1, .ref (kA 0))]) hx hb dX7_wordAmong_25 hl (by decide) rfl (fun ls hl => ?_)
  refine lv_iload hx hb dX7_wordAmong_27 (lv_at hl 0 rfl) ?_
  refine lv_bipush (v := 32) hx hb dX7_wordAmong_29 (by decide) ?_
  refine lv_icmp_eq (tgt := 67) hx hb dX7_wordAmong_31 (by decide) (fun _ => ?_) (fun c9 => absurd c9 (by decide))
  refine lv_iload hx hb dX7_wordAmong_67 (lv_at hl 3 rfl) ?_
  refine lv_if_eq (tgt := 90) hx hb dX7_wordAmong_69 (by decide) (fun _ => ?_) (fun c9 => absurd c9 (by decide))
  refine lv_iinc (v := 1) (lv' := [(2, .int 1), (6, .int 32), (5, .int 6), (3, .int 6), (4, .int 0), (0, .ref h0), (1, .ref (kA 0))]) hx hb dX7_wordAmong_90 hl (k := 4) rfl (by decide) (by decide) rfl (fun ls hl => ?_)
  refine lv_iconst (v := 0) hx hb dX7_wordAmong_93 (by decide) ?_
  refine lv_istore_n (lv' := [(3, .int 0), (2, .int 1), (6, .int 32), (5, .int 6), (4, .int 0), (0, .ref h0), (1, .ref (kA 0))]) hx hb dX7_wordAmong_94 rfl hl (by decide) rfl (fun ls hl => ?_)
  refine lv_iconst (v := 1) hx hb dX7_wordAmong_95 (by decide) ?_
  refine lv_istore (lv' := [(4, .int 1), (3, .int 0), (2, .int 1), (6, .int 32), (5, .int 6), (0, .ref h0), (1, .ref (kA 0))]) hx hb dX7_wordAmong_96 hl (by decide) rfl (fun ls hl => ?_)
  refine lv_iinc (v := 7) (lv' := [(5, .int 7), (4, .int 1), (3, .int 0), (2, .int 1), (6, .int 32), (0, .ref h0), (1, .ref (kA 0))]) hx hb dX7_wordAmong_98 hl (k := 4) rfl (by decide) (by decide) rfl (fun ls hl => ?_)
  refine lv_goto (tgt := 10) hx hb dX7_wordAmong_101 (by decide) ?_
  refine lv_iload hx hb dX7_wordAmong_10 (lv_at hl 0 rfl) ?_
  refine lv_aload_n hx hb dX7_wordAmong_12 rfl (lv_at hl 6 rfl) ?_
  have hPc := hP.sub (ws' := []) [] rfl
  have hDc := hD.sub (ws' := []) [] (by decide) rfl
  have hKc := hK.sub (tys' := []) [] rfl
  have hFc := va_free (wc := []) hD hS hA [] rfl
  refine va_calli (va_runV (As := []) (rest := [.int 7]) ⟨hx, hb, hml, hown, hq⟩ (c_J_length_0 l dC dI _ kA vA  ) (cwV 0 hq (gV qw_551 qw_552 qw_553 qw_133 qw_554) rfl rfl rfl (by decide +kernel) ⟨Nat.le_of_ble_eq_true rfl, Nat.le_of_ble_eq_true rfl⟩) ⟨fun a U g mk q => by obtain ⟨q0, q1, qP, qK, qD, qE, qT⟩ := q; exact ⟨q0, q1, qP, va_K.moved (u := U) (U := U.calling g mk a) (Vm.Alike.refl U.vm) qK, qD, xE.same rfl qE, xT.same rfl qT⟩, xT_recv hT hS (i := 0) (by decide), fun U hU hW => ⟨rfl, by rw [hU], by rw [hU]; exact hPc, va_K.moved hW.alike hKc, hDc.weaken (fun _ _ _ _ => trivial), xE.warm hW hE, by rw [hU]; exact xT.call hW hT hS hFc⟩⟩ rfl rfl hl.1 rfl (lv_room (Nat.le_of_ble_eq_true rfl)) dX7_wordAmong_13 ⟨Nat.le_of_ble_eq_true rfl, Nat.le_of_ble_eq_true rfl⟩) hS (fun q _ h => hFc q h) hFc (fun r_17 u t H1 locs ht hvm hw hB hz1 hk1 hS => ?_)
  obtain ⟨hP1, hK1, hD1⟩ := hB
  rw [ht] at hP1
  have hK1 := va_K.moved hvm.symm hK1
  obtain ⟨hP, hD⟩ := va_join (wr := [(h0, .inr (7, [.ref tx, .int 0, .int 0, .int 0]))]) (w1 := []) hP hD [] [0] rfl rfl (by decide) (by decide) hk1 hFc hP1 hD1
  generalize H1 = H at hP hS ⊢
  have hP : va_P (dC, dI) classes [(h0, .inr (7, [.ref tx, .int 0, .int 0, .int 0]))] H := hP
  have hD : va_D A [(h0, .inr (7, [.ref tx, .int 0, .int 0, .int 0]))] := hD
  obtain rfl : r_17 = 24 := hw
  refine lv_icmp_ge (tgt := 104) hx hb dX7_wordAmong_16 (by decide) (fun c9 => absurd c9 (by decide)) (fun _ => ?_)
  refine lv_aload_n hx hb dX7_wordAmong_19 rfl (lv_at hl 6 rfl) ?_
  refine lv_iload hx hb dX7_wordAmong_20 (lv_at hl 0 rfl) ?_
  have hPc := hP.sub (ws' := []) [] rfl
  have hDc := hD.sub (ws' := []) [] (by decide) rfl
  have hKc := hK.sub (tys' := []) [] rfl
  have hFc := va_free (wc := []) hD hS hA [] rfl
  refine va_calli (va_runV (As := [.int 7]) (rest := []) ⟨hx, hb, hml, hown, hq⟩ (c_J_charAt_0 l dC dI _ kA vA 7 (by decide) (by decide)) (cwV 1 hq (gV qw_561 qw_562 qw_563 qw_133 qw_564) rfl rfl rfl (by decide +kernel) ⟨Nat.le_of_ble_eq_true rfl, Nat.le_of_ble_eq_true rfl⟩) ⟨fun a U g mk q => by obtain ⟨q0, q1, qP, qK, qD, qE, qT⟩ := q; exact ⟨q0, q1, qP, va_K.moved (u := U) (U := U.calling g mk a) (Vm.Alike.refl U.vm) qK, qD, xE.same rfl qE, xT.same rfl qT⟩, xT_recv hT hS (i := 0) (by decide), fun U hU hW => ⟨rfl, by rw [hU], by rw [hU]; exact hPc, va_K.moved hW.alike hKc, hDc.weaken (fun _ _ _ _ => trivial), xE.warm hW hE, by rw [hU]; exact xT.call hW hT hS hFc⟩⟩ rfl rfl hl.1 rfl (lv_room (Nat.le_of_ble_eq_true rfl)) dX7_wordAmong_22 ⟨Nat.le_of_ble_eq_true rfl, Nat.le_of_ble_eq_true rfl⟩) hS (fun q _ h => hFc q h) hFc (fun r_18 u t H1 locs ht hvm hw hB hz1 hk1 hS => ?_)
  obtain ⟨hP1, hK1, hD1⟩ := hB
  rw [ht] at hP1
  have hK1 := va_K.moved hvm.symm hK1
  obtain ⟨hP, hD⟩ := va_join (wr := [(h0, .inr (7, [.ref tx, .int 0, .int 0, .int 0]))]) (w1 := []) hP hD [] [0] rfl rfl (by decide) (by decide) hk1 hFc hP1 hD1
  generalize H1 = H at hP hS ⊢
  have hP : va_P (dC, dI) classes [(h0, .inr (7, [.ref tx, .int 0, .int 0, .int 0]))] H := hP
  have hD : va_D A [(h0, .inr (7, [.ref tx, .int 0, .int 0, .int 0]))] := hD
  obtain rfl : r_18 = 100 := hw.trans (by decide)
  refine lv_istore (lv' := [(6, .int 100), (5, .int 7), (4, .int 1), (3, .int 0), (2, .int 1), (0, .ref h0), (1, .ref (kA 0))]) hx hb dX7_wordAmong_25 hl (by decide) rfl (fun ls hl => ?_)
  refine lv_iload hx hb dX7_wordAmong_27 (lv_at hl 0 rfl) ?_
  refine lv_bipush (v := 32) hx hb dX7_wordAmong_29 (by decide) ?_
  refine lv_icmp_eq (tgt := 67) hx hb dX7_wordAmong_31 (by decide) (fun c9 => absurd c9 (by decide)) (fun _ => ?_)
  refine lv_iload hx hb dX7_wordAmong_34 (lv_at hl 2 rfl) ?_
  refine lv_if_eq (tgt := 58) hx hb dX7_wordAmong_36 (by decide) (fun c9 => absurd c9 (by decide)) (fun _ => ?_)
  refine lv_aload_n hx hb dX7_wordAmong_39 rfl (lv_at hl 5 rfl) ?_
  refine lv_aload_n hx hb dX7_wordAmong_40 rfl (lv_at hl 5 rfl) ?_
  refine va_get (D := (dC, dI)) (ci := 7) (v := .int 0) (C := RX7) (T := TX7) (N := 4) hx hb hq inX7 hown hK hP 0 rfl rfl 2 (by decide) (hq _ qw_161) (fun _ h9 => h9) rfl dX7_wordAmong_41 ?_
  refine lv_iload_n hx hb dX7_wordAmong_44 rfl (lv_at hl 3 rfl) ?_
  refine lv_iadd hx hb dX7_wordAmong_45 ?_
  refine lv_topi (fun y_19 ey_19 => ?_)
  obtain rfl : y_19 = 0 := ey_19.trans (by decide)
  have hPc := hP.sub (ws' := [(h0, .inr (7, [.ref tx, .int 0, .int 0, .int 0]))]) [0] rfl
  have hDc := hD.sub (ws' := [(h0, .inr (7, [.ref tx, .int 0, .int 0, .int 0]))]) [0] (by decide) rfl
  have hKc := hK.sub (tys' := []) [] rfl
  have hFc := va_free (wc := [(h0, .inr (7, [.ref tx, .int 0, .int 0, .int 0]))]) hD hS hA [0] rfl
  refine va_calli (va_runV (As := [.int 0]) (rest := []) ⟨hx, hb, hml, hown, hq⟩ (c_Rd_byteAt l dC dI _ h0 tx 0 0 ) (cwV 1 hq (gV qw_542 qw_544 qw_1 qw_121 qw_545) rfl rfl rfl (by decide +kernel) ⟨Nat.le_of_ble_eq_true rfl, Nat.le_of_ble_eq_true rfl⟩) ⟨fun a U g mk q => by obtain ⟨q0, q1, qP, qK, qD, qE⟩ := q; exact ⟨q0, q1, qP, va_K.moved (u := U) (U := U.calling g mk a) (Vm.Alike.refl U.vm) qK, qD, xE.same rfl qE⟩, va_recv hKc hPc (ci := 7) (q0 := 0) rfl rfl, fun U hU hW => ⟨rfl, by rw [hU], by rw [hU]; exact hPc, va_K.moved hW.alike hKc, hDc.weaken (fun _ _ _ _ => trivial), xE.warm hW hE⟩⟩ rfl rfl hl.1 rfl (lv_room (Nat.le_of_ble_eq_true rfl)) dX7_wordAmong_46 ⟨Nat.le_of_ble_eq_true rfl, Nat.le_of_ble_eq_true rfl⟩) hS (fun q _ h => hFc q h) hFc (fun r_20 u t H1 locs ht hvm hw hB hz1 hk1 hS => ?_)
  obtain ⟨hP1, hK1, hD1⟩ := hB
  rw [ht] at hP1
  have hK1 := va_K.moved hvm.symm hK1
  obtain ⟨hP, hD⟩ := va_join (wr := []) (w1 := [(h0, .inr (7, [.ref tx, .int 0, .int 0, .int 0]))]) hP hD [0] [] rfl rfl (by decide) (by decide) hk1 hFc hP1 hD1
  generalize H1 = H at hP hS ⊢
  have hP : va_P (dC, dI) classes [(h0, .inr (7, [.ref tx, .int 0, .int 0, .int 0]))] H := hP
  have hD : va_D A [(h0, .inr (7, [.ref tx, .int 0, .int 0, .int 0]))] := hD
  obtain rfl : r_20 = (-1) := hw
  refine lv_iload hx hb dX7_wordAmong_49 (lv_at hl 0 rfl) ?_
  refine lv_icmp_ne (tgt := 58) hx hb dX7_wordAmong_51 (by decide) (fun _ => ?_) (fun c9 => absurd c9 (by decide))
  refine lv_iconst (v := 0) hx hb dX7_wordAmong_58 (by decide) ?_
  refine lv_istore (lv' := [(4, .int 0), (6, .int 100), (5, .int 7), (3, .int 0), (2, .int 1), (0, .ref h0), (1, .ref (kA 0))]) hx hb dX7_wordAmong_59 hl (by decide) rfl (fun ls hl => ?_)
  refine lv_iinc (v := 1) (lv' := [(3, .int 1), (4, .int 0), (6, .int 100), (5, .int 7), (2, .int 1), (0, .ref h0), (1, .ref (kA 0))]) hx hb dX7_wordAmong_61 hl (k := 3) rfl (by decide) (by decide) rfl (fun ls hl => ?_)
  refine lv_goto (tgt := 98) hx hb dX7_wordAmong_64 (by decide) ?_
  refine lv_iinc (v := 8) (lv' := [(5, .int 8), (3, .int 1), (4, .int 0), (6, .int 100), (2, .int 1), (0, .ref h0), (1, .ref (kA 0))]) hx hb dX7_wordAmong_98 hl (k := 3) rfl (by decide) (by decide) rfl (fun ls hl => ?_)
  refine lv_goto (tgt := 10) hx hb dX7_wordAmong_101 (by decide) ?_
  refine lv_iload hx hb dX7_wordAmong_10 (lv_at hl 0 rfl) ?_
  refine lv_aload_n hx hb dX7_wordAmong_12 rfl (lv_at hl 6 rfl) ?_
  have hPc := hP.sub (ws' := []) [] rfl
  have hDc := hD.sub (ws' := []) [] (by decide) rfl
  have hKc := hK.sub (tys' := []) [] rfl
  have hFc := va_free (wc := []) hD hS hA [] rfl
  refine va_calli (va_runV (As := []) (rest := [.int 8]) ⟨hx, hb, hml, hown, hq⟩ (c_J_length_0 l dC dI _ kA vA  ) (cwV 0 hq (gV qw_551 qw_552 qw_553 qw_133 qw_554) rfl rfl rfl (by decide +kernel) ⟨Nat.le_of_ble_eq_true rfl, Nat.le_of_ble_eq_true rfl⟩) ⟨fun a U g mk q => by obtain ⟨q0, q1, qP, qK, qD, qE, qT⟩ := q; exact ⟨q0, q1, qP, va_K.moved (u := U) (U := U.calling g mk a) (Vm.Alike.refl U.vm) qK, qD, xE.same rfl qE, xT.same rfl qT⟩, xT_recv hT hS (i := 0) (by decide), fun U hU hW => ⟨rfl, by rw [hU], by rw [hU]; exact hPc, va_K.moved hW.alike hKc, hDc.weaken (fun _ _ _ _ => trivial), xE.warm hW hE, by rw [hU]; exact xT.call hW hT hS hFc⟩⟩ rfl rfl hl.1 rfl (lv_room (Nat.le_of_ble_eq_true rfl)) dX7_wordAmong_13 ⟨Nat.le_of_ble_eq_true rfl, Nat.le_of_ble_eq_true rfl⟩) hS (fun q _ h => hFc q h) hFc (fun r_21 u t H1 locs ht hvm hw hB hz1 hk1 hS => ?_)
  obtain ⟨hP1, hK1, hD1⟩ := hB
  rw [ht] at hP1
  have hK1 := va_K.moved hvm.symm hK1
  obtain ⟨hP, hD⟩ := va_join (wr := [(h0, .inr (7, [.ref tx, .int 0, .int 0, .int 0]))]) (w1 := []) hP hD [] [0] rfl rfl (by decide) (by decide) hk1 hFc hP1 hD1
  generalize H1 = H at hP hS ⊢
  have hP : va_P (dC, dI) classes [(h0, .inr (7, [.ref tx, .int 0, .int 0, .int 0]))] H := hP
  have hD : va_D A [(h0, .inr (7, [.ref tx, .int 0, .int 0, .int 0]))] := hD
  obtain rfl : r_21 = 24 := hw
  refine lv_icmp_ge (tgt := 104) hx hb dX7_wordAmong_16 (by decide) (fun c9 => absurd c9 (by decide)) (fun _ => ?_)
  refine lv_aload_n hx hb dX7_wordAmong_19 rfl (lv_at hl 6 rfl) ?_
  refine lv_iload hx hb dX7_wordAmong_20 (lv_at hl 0 rfl) ?_
  have hPc := hP.sub (ws' := []) [] rfl
  have hDc := hD.sub (ws' := []) [] (by decide) rfl
  have hKc := hK.sub (tys' := []) [] rfl
  have hFc := va_free (wc := []) hD hS hA [] rfl
  refine va_calli (va_runV (As := [.int 8]) (rest := []) ⟨hx, hb, hml, hown, hq⟩ (c_J_charAt_0 l dC dI _ kA vA 8 (by decide) (by decide)) (cwV 1 hq (gV qw_561 qw_562 qw_563 qw_133 qw_564) rfl rfl rfl (by decide +kernel) ⟨Nat.le_of_ble_eq_true rfl, Nat.le_of_ble_eq_true rfl⟩) ⟨fun a U g mk q => by obtain ⟨q0, q1, qP, qK, qD, qE, qT⟩ := q; exact ⟨q0, q1, qP, va_K.moved (u := U) (U := U.calling g mk a) (Vm.Alike.refl U.vm) qK, qD, xE.same rfl qE, xT.same rfl qT⟩, xT_recv hT hS (i := 0) (by decide), fun U hU hW => ⟨rfl, by rw [hU], by rw [hU]; exact hPc, va_K.moved hW.alike hKc, hDc.weaken (fun _ _ _ _ => trivial), xE.warm hW hE, by rw [hU]; exact xT.call hW hT hS hFc⟩⟩ rfl rfl hl.1 rfl (lv_room (Nat.le_of_ble_eq_true rfl)) dX7_wordAmong_22 ⟨Nat.le_of_ble_eq_true rfl, Nat.le_of_ble_eq_true rfl⟩) hS (fun q _ h => hFc q h) hFc (fun r_22 u t H1 locs ht hvm hw hB hz1 hk1 hS => ?_)
  obtain ⟨hP1, hK1, hD1⟩ := hB
  rw [ht] at hP1
  have hK1 := va_K.moved hvm.symm hK1
  obtain ⟨hP, hD⟩ := va_join (wr := [(h0, .inr (7, [.ref tx, .int 0, .int 0, .int 0]))]) (w1 := []) hP hD [] [0] rfl rfl (by decide) (by decide) hk1 hFc hP1 hD1
  generalize H1 = H at hP hS ⊢
  have hP : va_P (dC, dI) classes [(h0, .inr (7, [.ref tx, .int 0, .int 0, .int 0]))] H := hP
  have hD : va_D A [(h0, .inr (7, [.ref tx, .int 0, .int 0, .int 0]))] := hD
  obtain rfl : r_22 = 105 := hw.trans (by decide)
  refine lv_istore (lv' := [(6, .int 105), (5, .int 8), (3, .int 1), (4, .int 0), (2, .int 1), (0, .ref h0), (1, .ref (kA 0))]) hx hb dX7_wordAmong_25 hl (by decide) rfl (fun ls hl => ?_)
  refine lv_iload hx hb dX7_wordAmong_27 (lv_at hl 0 rfl) ?_
  refine lv_bipush (v := 32) hx hb dX7_wordAmong_29 (by decide) ?_
  refine lv_icmp_eq (tgt := 67) hx hb dX7_wordAmong_31 (by decide) (fun c9 => absurd c9 (by decide)) (fun _ => ?_)
  refine lv_iload hx hb dX7_wordAmong_34 (lv_at hl 3 rfl) ?_
  refine lv_if_eq (tgt := 58) hx hb dX7_wordAmong_36 (by decide) (fun _ => ?_) (fun c9 => absurd c9 (by decide))
  refine lv_iconst (v := 0) hx hb dX7_wordAmong_58 (by decide) ?_
  refine lv_istore (lv' := [(4, .int 0), (6, .int 105), (5, .int 8), (3, .int 1), (2, .int 1), (0, .ref h0), (1, .ref (kA 0))]) hx hb dX7_wordAmong_59 hl (by decide) rfl (fun ls hl => ?_)
  refine lv_iinc (v := 2) (lv' := [(3, .int 2), (4, .int 0), (6, .int 105), (5, .int 8), (2, .int 1), (0, .ref h0), (1, .ref (kA 0))]) hx hb dX7_wordAmong_61 hl (k := 3) rfl (by decide) (by decide) rfl (fun ls hl => ?_)
  refine lv_goto (tgt := 98) hx hb dX7_wordAmong_64 (by decide) ?_
  refine lv_iinc (v := 9) (lv' := [(5, .int 9), (3, .int 2), (4, .int 0), (6, .int 105), (2, .int 1), (0, .ref h0), (1, .ref (kA 0))]) hx hb dX7_wordAmong_98 hl (k := 3) rfl (by decide) (by decide) rfl (fun ls hl => ?_)
  refine lv_goto (tgt := 10) hx hb dX7_wordAmong_101 (by decide) ?_
  refine lv_iload hx hb dX7_wordAmong_10 (lv_at hl 0 rfl) ?_
  refine lv_aload_n hx hb dX7_wordAmong_12 rfl (lv_at hl 6 rfl) ?_
  have hPc := hP.sub (ws' := []) [] rfl
  have hDc := hD.sub (ws' := []) [] (by decide) rfl
  have hKc := hK.sub (tys' := []) [] rfl
  have hFc := va_free (wc := []) hD hS hA [] rfl
  refine va_calli (va_runV (As := []) (rest := [.int 9]) ⟨hx, hb, hml, hown, hq⟩ (c_J_length_0 l dC dI _ kA vA  ) (cwV 0 hq (gV qw_551 qw_552 qw_553 qw_133 qw_554) rfl rfl rfl (by decide +kernel) ⟨Nat.le_of_ble_eq_true rfl, Nat.le_of_ble_eq_true rfl⟩) ⟨fun a U g mk q => by obtain ⟨q0, q1, qP, qK, qD, qE, qT⟩ := q; exact ⟨q0, q1, qP, va_K.moved (u := U) (U := U.calling g mk a) (Vm.Alike.refl U.vm) qK, qD, xE.same rfl qE, xT.same rfl qT⟩, xT_recv hT hS (i := 0) (by decide), fun U hU hW => ⟨rfl, by rw [hU], by rw [hU]; exact hPc, va_K.moved hW.alike hKc, hDc.weaken (fun _ _ _ _ => trivial), xE.warm hW hE, by rw [hU]; exact xT.call hW hT hS hFc⟩⟩ rfl rfl hl.1 rfl (lv_room (Nat.le_of_ble_eq_true rfl)) dX7_wordAmong_13 ⟨Nat.le_of_ble_eq_true rfl, Nat.le_of_ble_eq_true rfl⟩) hS (fun q _ h => hFc q h) hFc (fun r_23 u t H1 locs ht hvm hw hB hz1 hk1 hS => ?_)
  obtain ⟨hP1, hK1, hD1⟩ := hB
  rw [ht] at hP1
  have hK1 := va_K.moved hvm.symm hK1
  obtain ⟨hP, hD⟩ := va_join (wr := [(h0, .inr (7, [.ref tx, .int 0, .int 0, .int 0]))]) (w1 := []) hP hD [] [0] rfl rfl (by decide) (by decide) hk1 hFc hP1 hD1
  generalize H1 = H at hP hS ⊢
  have hP : va_P (dC, dI) classes [(h0, .inr (7, [.ref tx, .int 0, .int 0, .int 0]))] H := hP
  have hD : va_D A [(h0, .inr (7, [.ref tx, .int 0, .int 0, .int 0]))] := hD
  obtain rfl : r_23 = 24 := hw
  refine lv_icmp_ge (tgt := 104) hx hb dX7_wordAmong_16 (by decide) (fun c9 => absurd c9 (by decide)) (fun _ => ?_)
  refine lv_aload_n hx hb dX7_wordAmong_19 rfl (lv_at hl 6 rfl) ?_
  refine lv_iload hx hb dX7_wordAmong_20 (lv_at hl 0 rfl) ?_
  have hPc := hP.sub (ws' := []) [] rfl
  have hDc := hD.sub (ws' := []) [] (by decide) rfl
  have hKc := hK.sub (tys' := []) [] rfl
  have hFc := va_free (wc := []) hD hS hA [] rfl
  refine va_calli (va_runV (As := [.int 9]) (rest := []) ⟨hx, hb, hml, hown, hq⟩ (c_J_charAt_0 l dC dI _ kA vA 9 (by decide) (by decide)) (cwV 1 hq (gV qw_561 qw_562 qw_563 qw_133 qw_564) rfl rfl rfl (by decide +kernel) ⟨Nat.le_of_ble_eq_true rfl, Nat.le_of_ble_eq_true rfl⟩) ⟨fun a U g mk q => by obtain ⟨q0, q1, qP, qK, qD, qE, qT⟩ := q; exact ⟨q0, q1, qP, va_K.moved (u := U) (U := U.calling g mk a) (Vm.Alike.refl U.vm) qK, qD, xE.same rfl qE, xT.same rfl qT⟩, xT_recv hT hS (i := 0) (by decide), fun U hU hW => ⟨rfl, by rw [hU], by rw [hU]; exact hPc, va_K.moved hW.alike hKc, hDc.weaken (fun _ _ _ _ => trivial), xE.warm hW hE, by rw [hU]; exact xT.call hW hT hS hFc⟩⟩ rfl rfl hl.1 rfl (lv_room (Nat.le_of_ble_eq_true rfl)) dX7_wordAmong_22 ⟨Nat.le_of_ble_eq_true rfl, Nat.le_of_ble_eq_true rfl⟩) hS (fun q _ h => hFc q h) hFc (fun r_24 u t H1 locs ht hvm hw hB hz1 hk1 hS => ?_)
  obtain ⟨hP1, hK1, hD1⟩ := hB
  rw [ht] at hP1
  have hK1 := va_K.moved hvm.symm hK1
  obtain ⟨hP, hD⟩ := va_join (wr := [(h0, .inr (7, [.ref tx, .int 0, .int 0, .int 0]))]) (w1 := []) hP hD [] [0] rfl rfl (by decide) (by decide) hk1 hFc hP1 hD1
  generalize H1 = H at hP hS ⊢
  have hP : va_P (dC, dI) classes [(h0, .inr (7, [.ref tx, .int 0, .int 0, .int 0]))] H := hP
  have hD : va_D A [(h0, .inr (7, [.ref tx, .int 0, .int 0, .int 0]))] := hD
  obtain rfl : r_24 = 115 := hw.trans (by decide)
  refine lv_istore (lv' := [(6, .int 115), (5, .int 9), (3, .int 2), (4, .int 0), (2, .int 1), (0, .ref h0), (1, .ref (kA 0))]) hx hb dX7_wordAmong_25 hl (by decide) rfl (fun ls hl => ?_)
  refine lv_iload hx hb dX7_wordAmong_27 (lv_at hl 0 rfl) ?_
  refine lv_bipush (v := 32) hx hb dX7_wordAmong_29 (by decide) ?_
  refine lv_icmp_eq (tgt := 67) hx hb dX7_wordAmong_31 (by decide) (fun c9 => absurd c9 (by decide)) (fun _ => ?_)
  refine lv_iload hx hb dX7_wordAmong_34 (lv_at hl 3 rfl) ?_
  refine lv_if_eq (tgt := 58) hx hb dX7_wordAmong_36 (by decide) (fun _ => ?_) (fun c9 => absurd c9 (by decide))
  refine lv_iconst (v := 0) hx hb dX7_wordAmong_58 (by decide) ?_
  refine lv_istore (lv' := [(4, .int 0), (6, .int 115), (5, .int 9), (3, .int 2), (2, .int 1), (0, .ref h0), (1, .ref (kA 0))]) hx hb dX7_wordAmong_59 hl (by decide) rfl (fun ls hl => ?_)
  refine lv_iinc (v := 3) (lv' := [(3, .int 3), (4, .int 0), (6, .int 115), (5, .int 9), (2, .int 1), (0, .ref h0), (1, .ref (kA 0))]) hx hb dX7_wordAmong_61 hl (k := 3) rfl (by decide) (by decide) rfl (fun ls hl => ?_)
  refine lv_goto (tgt := 98) hx hb dX7_wordAmong_64 (by decide) ?_
  refine lv_iinc (v := 10) (lv' := [(5, .int 10), (3, .int 3), (4, .int 0), (6, .int 115), (2, .int 1), (0, .ref h0), (1, .ref (kA 0))]) hx hb dX7_wordAmong_98 hl (k := 3) rfl (by decide) (by decide) rfl (fun ls hl => ?_)
  refine lv_goto (tgt := 10) hx hb dX7_wordAmong_101 (by decide) ?_
  refine lv_iload hx hb dX7_wordAmong_10 (lv_at hl 0 rfl) ?_
  refine lv_aload_n hx hb dX7_wordAmong_12 rfl (lv_at hl 6 rfl) ?_
  have hPc := hP.sub (ws' := []) [] rfl
  have hDc := hD.sub (ws' := []) [] (by decide) rfl
  have hKc := hK.sub (tys' := []) [] rfl
  have hFc := va_free (wc := []) hD hS hA [] rfl
  refine va_calli (va_runV (As := []) (rest := [.int 10]) ⟨hx, hb, hml, hown, hq⟩ (c_J_length_0 l dC dI _ kA vA  ) (cwV 0 hq (gV qw_551 qw_552 qw_553 qw_133 qw_554) rfl rfl rfl (by decide +kernel) ⟨Nat.le_of_ble_eq_true rfl, Nat.le_of_ble_eq_true rfl⟩) ⟨fun a U g mk q => by obtain ⟨q0, q1, qP, qK, qD, qE, qT⟩ := q; exact ⟨q0, q1, qP, va_K.moved (u := U) (U := U.calling g mk a) (Vm.Alike.refl U.vm) qK, qD, xE.same rfl qE, xT.same rfl qT⟩, xT_recv hT hS (i := 0) (by decide), fun U hU hW => ⟨rfl, by rw [hU], by rw [hU]; exact hPc, va_K.moved hW.alike hKc, hDc.weaken (fun _ _ _ _ => trivial), xE.warm hW hE, by rw [hU]; exact xT.call hW hT hS hFc⟩⟩ rfl rfl hl.1 rfl (lv_room (Nat.le_of_ble_eq_true rfl)) dX7_wordAmong_13 ⟨Nat.le_of_ble_eq_true rfl, Nat.le_of_ble_eq_true rfl⟩) hS (fun q _ h => hFc q h) hFc (fun r_25 u t H1 locs ht hvm hw hB hz1 hk1 hS => ?_)
  obtain ⟨hP1, hK1, hD1⟩ := hB
  rw [ht] at hP1
  have hK1 := va_K.moved hvm.symm hK1
  obtain ⟨hP, hD⟩ := va_join (wr := [(h0, .inr (7, [.ref tx, .int 0, .int 0, .int 0]))]) (w1 := []) hP hD [] [0] rfl rfl (by decide) (by decide) hk1 hFc hP1 hD1
  generalize H1 = H at hP hS ⊢
  have hP : va_P (dC, dI) classes [(h0, .inr (7, [.ref tx, .int 0, .int 0, .int 0]))] H := hP
  have hD : va_D A [(h0, .inr (7, [.ref tx, .int 0, .int 0, .int 0]))] := hD
  obtain rfl : r_25 = 24 := hw
  refine lv_icmp_ge (tgt := 104) hx hb dX7_wordAmong_16 (by decide) (fun c9 => absurd c9 (by decide)) (fun _ => ?_)
  refine lv_aload_n hx hb dX7_wordAmong_19 rfl (lv_at hl 6 rfl) ?_
  refine lv_iload hx hb dX7_wordAmong_20 (lv_at hl 0 rfl) ?_
  have hPc := hP.sub (ws' := []) [] rfl
  have hDc := hD.sub (ws' := []) [] (by decide) rfl
  have hKc := hK.sub (tys' := []) [] rfl
  have hFc := va_free (wc := []) hD hS hA [] rfl
  refine va_calli (va_runV (As := [.int 10]) (rest := []) ⟨hx, hb, hml, hown, hq⟩ (c_J_charAt_0 l dC dI _ kA vA 10 (by decide) (by decide)) (cwV 1 hq (gV qw_561 qw_562 qw_563 qw_133 qw_564) rfl rfl rfl (by decide +kernel) ⟨Nat.le_of_ble_eq_true rfl, Nat.le_of_ble_eq_true rfl⟩) ⟨fun a U g mk q => by obtain ⟨q0, q1, qP, qK, qD, qE, qT⟩ := q; exact ⟨q0, q1, qP, va_K.moved (u := U) (U := U.calling g mk a) (Vm.Alike.refl U.vm) qK, qD, xE.same rfl qE, xT.same rfl qT⟩, xT_recv hT hS (i := 0) (by decide), fun U hU hW => ⟨rfl, by rw [hU], by rw [hU]; exact hPc, va_K.moved hW.alike hKc, hDc.weaken (fun _ _ _ _ => trivial), xE.warm hW hE, by rw [hU]; exact xT.call hW hT hS hFc⟩⟩ rfl rfl hl.1 rfl (lv_room (Nat.le_of_ble_eq_true rfl)) dX7_wordAmong_22 ⟨Nat.le_of_ble_eq_true rfl, Nat.le_of_ble_eq_true rfl⟩) hS (fun q _ h => hFc q h) hFc (fun r_26 u t H1 locs ht hvm hw hB hz1 hk1 hS => ?_)
  obtain ⟨hP1, hK1, hD1⟩ := hB
  rw [ht] at hP1
  have hK1 := va_K.moved hvm.symm hK1
  obtain ⟨hP, hD⟩ := va_join (wr := [(h0, .inr (7, [.ref tx, .int 0, .int 0, .int 0]))]) (w1 := []) hP hD [] [0] rfl rfl (by decide) (by decide) hk1 hFc hP1 hD1
  generalize H1 = H at hP hS ⊢
  have hP : va_P (dC, dI) classes [(h0, .inr (7, [.ref tx, .int 0, .int 0, .int 0]))] H := hP
  have hD : va_D A [(h0, .inr (7, [.ref tx, .int 0, .int 0, .int 0]))] := hD
  obtain rfl : r_26 = 104 := hw.trans (by decide)
  refine lv_istore (lv' := [(6, .int 104), (5, .int 10), (3, .int 3), (4, .int 0), (2, .int 1), (0, .ref h0), (1, .ref (kA 0))]) hx hb dX7_wordAmong_25 hl (by decide) rfl (fun ls hl => ?_)
  refine lv_iload hx hb dX7_wordAmong_27 (lv_at hl 0 rfl) ?_
  refine lv_bipush (v := 32) hx hb dX7_wordAmong_29 (by decide) ?_
  refine lv_icmp_eq (tgt := 67) hx hb dX7_wordAmong_31 (by decide) (fun c9 => absurd c9 (by decide)) (fun _ => ?_)
  refine lv_iload hx hb dX7_wordAmong_34 (lv_at hl 3 rfl) ?_
  refine lv_if_eq (tgt := 58) hx hb dX7_wordAmong_36 (by decide) (fun _ => ?_) (fun c9 => absurd c9 (by decide))
  refine lv_iconst (v := 0) hx hb dX7_wordAmong_58 (by decide) ?_
  refine lv_istore (lv' := [(4, .int 0), (6, .int 104), (5, .int 10), (3, .int 3), (2, .int 1), (0, .ref h0), (1, .ref (kA 0))]) hx hb dX7_wordAmong_59 hl (by decide) rfl (fun ls hl => ?_)
  refine lv_iinc (v := 4) (lv' := [(3, .int 4), (4, .int 0), (6, .int 104), (5, .int 10), (2, .int 1), (0, .ref h0), (1, .ref (kA 0))]) hx hb dX7_wordAmong_61 hl (k := 3) rfl (by decide) (by decide) rfl (fun ls hl => ?_)
  refine lv_goto (tgt := 98) hx hb dX7_wordAmong_64 (by decide) ?_
  refine lv_iinc (v := 11) (lv' := [(5, .int 11), (3, .int 4), (4, .int 0), (6, .int 104), (2, .int 1), (0, .ref h0), (1, .ref (kA 0))]) hx hb dX7_wordAmong_98 hl (k := 3) rfl (by decide) (by decide) rfl (fun ls hl => ?_)
  refine lv_goto (tgt := 10) hx hb dX7_wordAmong_101 (by decide) ?_
  refine lv_iload hx hb dX7_wordAmong_10 (lv_at hl 0 rfl) ?_
  refine lv_aload_n hx hb dX7_wordAmong_12 rfl (lv_at hl 6 rfl) ?_
  have hPc := hP.sub (ws' := []) [] rfl
  have hDc := hD.sub (ws' := []) [] (by decide) rfl
  have hKc := hK.sub (tys' := []) [] rfl
  have hFc := va_free (wc := []) hD hS hA [] rfl
  refine va_calli (va_runV (As := []) (rest := [.int 11]) ⟨hx, hb, hml, hown, hq⟩ (c_J_length_0 l dC dI _ kA vA  ) (cwV 0 hq (gV qw_551 qw_552 qw_553 qw_133 qw_554) rfl rfl rfl (by decide +kernel) ⟨Nat.le_of_ble_eq_true rfl, Nat.le_of_ble_eq_true rfl⟩) ⟨fun a U g mk q => by obtain ⟨q0, q1, qP, qK, qD, qE, qT⟩ := q; exact ⟨q0, q1, qP, va_K.moved (u := U) (U := U.calling g mk a) (Vm.Alike.refl U.vm) qK, qD, xE.same rfl qE, xT.same rfl qT⟩, xT_recv hT hS (i := 0) (by decide), fun U hU hW => ⟨rfl, by rw [hU], by rw [hU]; exact hPc, va_K.moved hW.alike hKc, hDc.weaken (fun _ _ _ _ => trivial), xE.warm hW hE, by rw [hU]; exact xT.call hW hT hS hFc⟩⟩ rfl rfl hl.1 rfl (lv_room (Nat.le_of_ble_eq_true rfl)) dX7_wordAmong_13 ⟨Nat.le_of_ble_eq_true rfl, Nat.le_of_ble_eq_true rfl⟩) hS (fun q _ h => hFc q h) hFc (fun r_27 u t H1 locs ht hvm hw hB hz1 hk1 hS => ?_)
  obtain ⟨hP1, hK1, hD1⟩ := hB
  rw [ht] at hP1
  have hK1 := va_K.moved hvm.symm hK1
  obtain ⟨hP, hD⟩ := va_join (wr := [(h0, .inr (7, [.ref tx, .int 0, .int 0, .int 0]))]) (w1 := []) hP hD [] [0] rfl rfl (by decide) (by decide) hk1 hFc hP1 hD1
  generalize H1 = H at hP hS ⊢
  have hP : va_P (dC, dI) classes [(h0, .inr (7, [.ref tx, .int 0, .int 0, .int 0]))] H := hP
  have hD : va_D A [(h0, .inr (7, [.ref tx, .int 0, .int 0, .int 0]))] := hD
  obtain rfl : r_27 = 24 := hw
  refine lv_icmp_ge (tgt := 104) hx hb dX7_wordAmong_16 (by decide) (fun c9 => absurd c9 (by decide)) (fun _ => ?_)
  refine lv_aload_n hx hb dX7_wordAmong_19 rfl (lv_at hl 6 rfl) ?_
  refine lv_iload hx hb dX7_wordAmong_20 (lv_at hl 0 rfl) ?_
  have hPc := hP.sub (ws' := []) [] rfl
  have hDc := hD.sub (ws' := []) [] (by decide) rfl
  have hKc := hK.sub (tys' := []) [] rfl
  have hFc := va_free (wc := []) hD hS hA [] rfl
  refine va_calli (va_runV (As := [.int 11]) (rest := []) ⟨hx, hb, hml, hown, hq⟩ (c_J_charAt_0 l dC dI _ kA vA 11 (by decide) (by decide)) (cwV 1 hq (gV qw_561 qw_562 qw_563 qw_133 qw_564) rfl rfl rfl (by decide +kernel) ⟨Nat.le_of_ble_eq_true rfl, Nat.le_of_ble_eq_true rfl⟩) ⟨fun a U g mk q => by obtain ⟨q0, q1, qP, qK, qD, qE, qT⟩ := q; exact ⟨q0, q1, qP, va_K.moved (u := U) (U := U.calling g mk a) (Vm.Alike.refl U.vm) qK, qD, xE.same rfl qE, xT.same rfl qT⟩, xT_recv hT hS (i := 0) (by decide), fun U hU hW => ⟨rfl, by rw [hU], by rw [hU]; exact hPc, va_K.moved hW.alike hKc, hDc.weaken (fun _ _ _ _ => trivial), xE.warm hW hE, by rw [hU]; exact xT.call hW hT hS hFc⟩⟩ rfl rfl hl.1 rfl (lv_room (Nat.le_of_ble_eq_true rfl)) dX7_wordAmong_22 ⟨Nat.le_of_ble_eq_true rfl, Nat.le_of_ble_eq_true rfl⟩) hS (fun q _ h => hFc q h) hFc (fun r_28 u t H1 locs ht hvm hw hB hz1 hk1 hS => ?_)
  obtain ⟨hP1, hK1, hD1⟩ := hB
  rw [ht] at hP1
  have hK1 := va_K.moved hvm.symm hK1
  obtain ⟨hP, hD⟩ := va_join (wr := [(h0, .inr (7, [.ref tx, .int 0, .int 0, .int 0]))]) (w1 := []) hP hD [] [0] rfl rfl (by decide) (by decide) hk1 hFc hP1 hD1
  generalize H1 = H at hP hS ⊢
  have hP : va_P (dC, dI) classes [(h0, .inr (7, [.ref tx, .int 0, .int 0, .int 0]))] H := hP
  have hD : va_D A [(h0, .inr (7, [.ref tx, .int 0, .int 0, .int 0]))] := hD
  obtain rfl : r_28 = 32 := hw.trans (by decide)
  refine lv_istore (lv' := [(6, .int 32), (5, .int 11), (3, .int 4), (4, .int 0), (2, .int 1), (0, .ref h0), (1, .ref (kA 0))]) hx hb dX7_wordAmong_25 hl (by decide) rfl (fun ls hl => ?_)
  refine lv_iload hx hb dX7_wordAmong_27 (lv_at hl 0 rfl) ?_
  refine lv_bipush (v := 32) hx hb dX7_wordAmong_29 (by decide) ?_
  refine lv_icmp_eq (tgt := 67) hx hb dX7_wordAmong_31 (by decide) (fun _ => ?_) (fun c9 => absurd c9 (by decide))
  refine lv_iload hx hb dX7_wordAmong_67 (lv_at hl 3 rfl) ?_
  refine lv_if_eq (tgt := 90) hx hb dX7_wordAmong_69 (by decide) (fun _ => ?_) (fun c9 => absurd c9 (by decide))
  refine lv_iinc (v := 2) (lv' := [(2, .int 2), (6, .int 32), (5, .int 11), (3, .int 4), (4, .int 0), (0, .ref h0), (1, .ref (kA 0))]) hx hb dX7_wordAmong_90 hl (k := 4) rfl (by decide) (by decide) rfl (fun ls hl => ?_)
  refine lv_iconst (v := 0) hx hb dX7_wordAmong_93 (by decide) ?_
  refine lv_istore_n (lv' := [(3, .int 0), (2, .int 2), (6, .int 32), (5, .int 11), (4, .int 0), (0, .ref h0), (1, .ref (kA 0))]) hx hb dX7_wordAmong_94 rfl hl (by decide) rfl (fun ls hl => ?_)
  refine lv_iconst (v := 1) hx hb dX7_wordAmong_95 (by decide) ?_
  refine lv_istore (lv' := [(4, .int 1), (3, .int 0), (2, .int 2), (6, .int 32), (5, .int 11), (0, .ref h0), (1, .ref (kA 0))]) hx hb dX7_wordAmong_96 hl (by decide) rfl (fun ls hl => ?_)
  refine lv_iinc (v := 12) (lv' := [(5, .int 12), (4, .int 1), (3, .int 0), (2, .int 2), (6, .int 32), (0, .ref h0), (1, .ref (kA 0))]) hx hb dX7_wordAmong_98 hl (k := 4) rfl (by decide) (by decide) rfl (fun ls hl => ?_)
  refine lv_goto (tgt := 10) hx hb dX7_wordAmong_101 (by decide) ?_
  refine lv_iload hx hb dX7_wordAmong_10 (lv_at hl 0 rfl) ?_
  refine lv_aload_n hx hb dX7_wordAmong_12 rfl (lv_at hl 6 rfl) ?_
  have hPc := hP.sub (ws' := []) [] rfl
  have hDc := hD.sub (ws' := []) [] (by decide) rfl
  have hKc := hK.sub (tys' := []) [] rfl
  have hFc := va_free (wc := []) hD hS hA [] rfl
  refine va_calli (va_runV (As := []) (rest := [.int 12]) ⟨hx, hb, hml, hown, hq⟩ (c_J_length_0 l dC dI _ kA vA  ) (cwV 0 hq (gV qw_551 qw_552 qw_553 qw_133 qw_554) rfl rfl rfl (by decide +kernel) ⟨Nat.le_of_ble_eq_true rfl, Nat.le_of_ble_eq_true rfl⟩) ⟨fun a U g mk q => by obtain ⟨q0, q1, qP, qK, qD, qE, qT⟩ := q; exact ⟨q0, q1, qP, va_K.moved (u := U) (U := U.calling g mk a) (Vm.Alike.refl U.vm) qK, qD, xE.same rfl qE, xT.same rfl qT⟩, xT_recv hT hS (i := 0) (by decide), fun U hU hW => ⟨rfl, by rw [hU], by rw [hU]; exact hPc, va_K.moved hW.alike hKc, hDc.weaken (fun _ _ _ _ => trivial), xE.warm hW hE, by rw [hU]; exact xT.call hW hT hS hFc⟩⟩ rfl rfl hl.1 rfl (lv_room (Nat.le_of_ble_eq_true rfl)) dX7_wordAmong_13 ⟨Nat.le_of_ble_eq_true rfl, Nat.le_of_ble_eq_true rfl⟩) hS (fun q _ h => hFc q h) hFc (fun r_29 u t H1 locs ht hvm hw hB hz1 hk1 hS => ?_)
  obtain ⟨hP1, hK1, hD1⟩ := hB
  rw [ht] at hP1
  have hK1 := va_K.moved hvm.symm hK1
  obtain ⟨hP, hD⟩ := va_join (wr := [(h0, .inr (7, [.ref tx, .int 0, .int 0, .int 0]))]) (w1 := []) hP hD [] [0] rfl rfl (by decide) (by decide) hk1 hFc hP1 hD1
  generalize H1 = H at hP hS ⊢
  have hP : va_P (dC, dI) classes [(h0, .inr (7, [.ref tx, .int 0, .int 0, .int 0]))] H := hP
  have hD : va_D A [(h0, .inr (7, [.ref tx, .int 0, .int 0, .int 0]))] := hD
  obtain rfl : r_29 = 24 := hw
  refine lv_icmp_ge (tgt := 104) hx hb dX7_wordAmong_16 (by decide) (fun c9 => absurd c9 (by decide)) (fun _ => ?_)
  refine lv_aload_n hx hb dX7_wordAmong_19 rfl (lv_at hl 6 rfl) ?_
  refine lv_iload hx hb dX7_wordAmong_20 (lv_at hl 0 rfl) ?_
  have hPc := hP.sub (ws' := []) [] rfl
  have hDc := hD.sub (ws' := []) [] (by decide) rfl
  have hKc := hK.sub (tys' := []) [] rfl
  have hFc := va_free (wc := []) hD hS hA [] rfl
  refine va_calli (va_runV (As := [.int 12]) (rest := []) ⟨hx, hb, hml, hown, hq⟩ (c_J_charAt_0 l dC dI _ kA vA 12 (by decide) (by decide)) (cwV 1 hq (gV qw_561 qw_562 qw_563 qw_133 qw_564) rfl rfl rfl (by decide +kernel) ⟨Nat.le_of_ble_eq_true rfl, Nat.le_of_ble_eq_true rfl⟩) ⟨fun a U g mk q => by obtain ⟨q0, q1, qP, qK, qD, qE, qT⟩ := q; exact ⟨q0, q1, qP, va_K.moved (u := U) (U := U.calling g mk a) (Vm.Alike.refl U.vm) qK, qD, xE.same rfl qE, xT.same rfl qT⟩, xT_recv hT hS (i := 0) (by decide), fun U hU hW => ⟨rfl, by rw [hU], by rw [hU]; exact hPc, va_K.moved hW.alike hKc, hDc.weaken (fun _ _ _ _ => trivial), xE.warm hW hE, by rw [hU]; exact xT.call hW hT hS hFc⟩⟩ rfl rfl hl.1 rfl (lv_room (Nat.le_of_ble_eq_true rfl)) dX7_wordAmong_22 ⟨Nat.le_of_ble_eq_true rfl, Nat.le_of_ble_eq_true rfl⟩) hS (fun q _ h => hFc q h) hFc (fun r_30 u t H1 locs ht hvm hw hB hz1 hk1 hS => ?_)
  obtain ⟨hP1, hK1, hD1⟩ := hB
  rw [ht] at hP1
  have hK1 := va_K.moved hvm.symm hK1
  obtain ⟨hP, hD⟩ := va_join (wr := [(h0, .inr (7, [.ref tx, .int 0, .int 0, .int 0]))]) (w1 := []) hP hD [] [0] rfl rfl (by decide) (by decide) hk1 hFc hP1 hD1
  generalize H1 = H at hP hS ⊢
  have hP : va_P (dC, dI) classes [(h0, .inr (7, [.ref tx, .int 0, .int 0, .int 0]))] H := hP
  have hD : va_D A [(h0, .inr (7, [.ref tx, .int 0, .int 0, .int 0]))] := hD
  obtain rfl : r_30 = 103 := hw.trans (by decide)
  refine lv_istore (lv' := [(6, .int 103), (5, .int 12), (4, .int 1), (3, .int 0), (2, .int 2), (0, .ref h0), (1, .ref (kA 0))]) hx hb dX7_wordAmong_25 hl (by decide) rfl (fun ls hl => ?_)
  refine lv_iload hx hb dX7_wordAmong_27 (lv_at hl 0 rfl) ?_
  refine lv_bipush (v := 32) hx hb dX7_wordAmong_29 (by decide) ?_
  refine lv_icmp_eq (tgt := 67) hx hb dX7_wordAmong_31 (by decide) (fun c9 => absurd c9 (by decide)) (fun _ => ?_)
  refine lv_iload hx hb dX7_wordAmong_34 (lv_at hl 2 rfl) ?_
  refine lv_if_eq (tgt := 58) hx hb dX7_wordAmong_36 (by decide) (fun c9 => absurd c9 (by decide)) (fun _ => ?_)
  refine lv_aload_n hx hb dX7_wordAmong_39 rfl (lv_at hl 5 rfl) ?_
  refine lv_aload_n hx hb dX7_wordAmong_40 rfl (lv_at hl 5 rfl) ?_
  refine va_get (D := (dC, dI)) (ci := 7) (v := .int 0) (C := RX7) (T := TX7) (N := 4) hx hb hq inX7 hown hK hP 0 rfl rfl 2 (by decide) (hq _ qw_161) (fun _ h9 => h9) rfl dX7_wordAmong_41 ?_
  refine lv_iload_n hx hb dX7_wordAmong_44 rfl (lv_at hl 3 rfl) ?_
  refine lv_iadd hx hb dX7_wordAmong_45 ?_
  refine lv_topi (fun y_31 ey_31 => ?_)
  obtain rfl : y_31 = 0 := ey_31.trans (by decide)
  have hPc := hP.sub (ws' := [(h0, .inr (7, [.ref tx, .int 0, .int 0, .int 0]))]) [0] rfl
  have hDc := hD.sub (ws' := [(h0, .inr (7, [.ref tx, .int 0, .int 0, .int 0]))]) [0] (by decide) rfl
  have hKc := hK.sub (tys' := []) [] rfl
  have hFc := va_free (wc := [(h0, .inr (7, [.ref tx, .int 0, .int 0, .int 0]))]) hD hS hA [0] rfl
  refine va_calli (va_runV (As := [.int 0]) (rest := []) ⟨hx, hb, hml, hown, hq⟩ (c_Rd_byteAt l dC dI _ h0 tx 0 0 ) (cwV 1 hq (gV qw_542 qw_544 qw_1 qw_121 qw_545) rfl rfl rfl (by decide +kernel) ⟨Nat.le_of_ble_eq_true rfl, Nat.le_of_ble_eq_true rfl⟩) ⟨fun a U g mk q => by obtain ⟨q0, q1, qP, qK, qD, qE⟩ := q; exact ⟨q0, q1, qP, va_K.moved (u := U) (U := U.calling g mk a) (Vm.Alike.refl U.vm) qK, qD, xE.same rfl qE⟩, va_recv hKc hPc (ci := 7) (q0 := 0) rfl rfl, fun U hU hW => ⟨rfl, by rw [hU], by rw [hU]; exact hPc, va_K.moved hW.alike hKc, hDc.weaken (fun _ _ _ _ => trivial), xE.warm hW hE⟩⟩ rfl rfl hl.1 rfl (lv_room (Nat.le_of_ble_eq_true rfl)) dX7_wordAmong_46 ⟨Nat.le_of_ble_eq_true rfl, Nat.le_of_ble_eq_true rfl⟩) hS (fun q _ h => hFc q h) hFc (fun r_32 u t H1 locs ht hvm hw hB hz1 hk1 hS => ?_)
  obtain ⟨hP1, hK1, hD1⟩ := hB
  rw [ht] at hP1
  have hK1 := va_K.moved hvm.symm hK1
  obtain ⟨hP, hD⟩ := va_join (wr := []) (w1 := [(h0, .inr (7, [.ref tx, .int 0, .int 0, .int 0]))]) hP hD [0] [] rfl rfl (by decide) (by decide) hk1 hFc hP1 hD1
  generalize H1 = H at hP hS ⊢
  have hP : va_P (dC, dI) classes [(h0, .inr (7, [.ref tx, .int 0, .int 0, .int 0]))] H := hP
  have hD : va_D A [(h0, .inr (7, [.ref tx, .int 0, .int 0, .int 0]))] := hD
  obtain rfl : r_32 = (-1) := hw
  refine lv_iload hx hb dX7_wordAmong_49 (lv_at hl 0 rfl) ?_
  refine lv_icmp_ne (tgt := 58) hx hb dX7_wordAmong_51 (by decide) (fun _ => ?_) (fun c9 => absurd c9 (by decide))
  refine lv_iconst (v := 0) hx hb dX7_wordAmong_58 (by decide) ?_
  refine lv_istore (lv' := [(4, .int 0), (6, .int 103), (5, .int 12), (3, .int 0), (2, .int 2), (0, .ref h0), (1, .ref (kA 0))]) hx hb dX7_wordAmong_59 hl (by decide) rfl (fun ls hl => ?_)
  refine lv_iinc (v := 1) (lv' := [(3, .int 1), (4, .int 0), (6, .int 103), (5, .int 12), (2, .int 2), (0, .ref h0), (1, .ref (kA 0))]) hx hb dX7_wordAmong_61 hl (k := 3) rfl (by decide) (by decide) rfl (fun ls hl => ?_)
  refine lv_goto (tgt := 98) hx hb dX7_wordAmong_64 (by decide) ?_
  refine lv_iinc (v := 13) (lv' := [(5, .int 13), (3, .int 1), (4, .int 0), (6, .int 103), (2, .int 2), (0, .ref h0), (1, .ref (kA 0))]) hx hb dX7_wordAmong_98 hl (k := 3) rfl (by decide) (by decide) rfl (fun ls hl => ?_)
  refine lv_goto (tgt := 10) hx hb dX7_wordAmong_101 (by decide) ?_
  refine lv_iload hx hb dX7_wordAmong_10 (lv_at hl 0 rfl) ?_
  refine lv_aload_n hx hb dX7_wordAmong_12 rfl (lv_at hl 6 rfl) ?_
  have hPc := hP.sub (ws' := []) [] rfl
  have hDc := hD.sub (ws' := []) [] (by decide) rfl
  have hKc := hK.sub (tys' := []) [] rfl
  have hFc := va_free (wc := []) hD hS hA [] rfl
  refine va_calli (va_runV (As := []) (rest := [.int 13]) ⟨hx, hb, hml, hown, hq⟩ (c_J_length_0 l dC dI _ kA vA  ) (cwV 0 hq (gV qw_551 qw_552 qw_553 qw_133 qw_554) rfl rfl rfl (by decide +kernel) ⟨Nat.le_of_ble_eq_true rfl, Nat.le_of_ble_eq_true rfl⟩) ⟨fun a U g mk q => by obtain ⟨q0, q1, qP, qK, qD, qE, qT⟩ := q; exact ⟨q0, q1, qP, va_K.moved (u := U) (U := U.calling g mk a) (Vm.Alike.refl U.vm) qK, qD, xE.same rfl qE, xT.same rfl qT⟩, xT_recv hT hS (i := 0) (by decide), fun U hU hW => ⟨rfl, by rw [hU], by rw [hU]; exact hPc, va_K.moved hW.alike hKc, hDc.weaken (fun _ _ _ _ => trivial), xE.warm hW hE, by rw [hU]; exact xT.call hW hT hS hFc⟩⟩ rfl rfl hl.1 rfl (lv_room (Nat.le_of_ble_eq_true rfl)) dX7_wordAmong_13 ⟨Nat.le_of_ble_eq_true rfl, Nat.le_of_ble_eq_true rfl⟩) hS (fun q _ h => hFc q h) hFc (fun r_33 u t H1 locs ht hvm hw hB hz1 hk1 hS => ?_)
  obtain ⟨hP1, hK1, hD1⟩ := hB
  rw [ht] at hP1
  have hK1 := va_K.moved hvm.symm hK1
  obtain ⟨hP, hD⟩ := va_join (wr := [(h0, .inr (7, [.ref tx, .int 0, .int 0, .int 0]))]) (w1 := []) hP hD [] [0] rfl rfl (by decide) (by decide) hk1 hFc hP1 hD1
  generalize H1 = H at hP hS ⊢
  have hP : va_P (dC, dI) classes [(h0, .inr (7, [.ref tx, .int 0, .int 0, .int 0]))] H := hP
  have hD : va_D A [(h0, .inr (7, [.ref tx, .int 0, .int 0, .int 0]))] := hD
  obtain rfl : r_33 = 24 := hw
  refine lv_icmp_ge (tgt := 104) hx hb dX7_wordAmong_16 (by decide) (fun c9 => absurd c9 (by decide)) (fun _ => ?_)
  refine lv_aload_n hx hb dX7_wordAmong_19 rfl (lv_at hl 6 rfl) ?_
  refine lv_iload hx hb dX7_wordAmong_20 (lv_at hl 0 rfl) ?_
  have hPc := hP.sub (ws' := []) [] rfl
  have hDc := hD.sub (ws' := []) [] (by decide) rfl
  have hKc := hK.sub (tys' := []) [] rfl
  have hFc := va_free (wc := []) hD hS hA [] rfl
  refine va_calli (va_runV (As := [.int 13]) (rest := []) ⟨hx, hb, hml, hown, hq⟩ (c_J_charAt_0 l dC dI _ kA vA 13 (by decide) (by decide)) (cwV 1 hq (gV qw_561 qw_562 qw_563 qw_133 qw_564) rfl rfl rfl (by decide +kernel) ⟨Nat.le_of_ble_eq_true rfl, Nat.le_of_ble_eq_true rfl⟩) ⟨fun a U g mk q => by obtain ⟨q0, q1, qP, qK, qD, qE, qT⟩ := q; exact ⟨q0, q1, qP, va_K.moved (u := U) (U := U.calling g mk a) (Vm.Alike.refl U.vm) qK, qD, xE.same rfl qE, xT.same rfl qT⟩, xT_recv hT hS (i := 0) (by decide), fun U hU hW => ⟨rfl, by rw [hU], by rw [hU]; exact hPc, va_K.moved hW.alike hKc, hDc.weaken (fun _ _ _ _ => trivial), xE.warm hW hE, by rw [hU]; exact xT.call hW hT hS hFc⟩⟩ rfl rfl hl.1 rfl (lv_room (Nat.le_of_ble_eq_true rfl)) dX7_wordAmong_22 ⟨Nat.le_of_ble_eq_true rfl, Nat.le_of_ble_eq_true rfl⟩) hS (fun q _ h => hFc q h) hFc (fun r_34 u t H1 locs ht hvm hw hB hz1 hk1 hS => ?_)
  obtain ⟨hP1, hK1, hD1⟩ := hB
  rw [ht] at hP1
  have hK1 := va_K.moved hvm.symm hK1
  obtain ⟨hP, hD⟩ := va_join (wr := [(h0, .inr (7, [.ref tx, .int 0, .int 0, .int 0]))]) (w1 := []) hP hD [] [0] rfl rfl (by decide) (by decide) hk1 hFc hP1 hD1
  generalize H1 = H at hP hS ⊢
  have hP : va_P (dC, dI) classes [(h0, .inr (7, [.ref tx, .int 0, .int 0, .int 0]))] H := hP
  have hD : va_D A [(h0, .inr (7, [.ref tx, .int 0, .int 0, .int 0]))] := hD
  obtain rfl : r_34 = 117 := hw.trans (by decide)
  refine lv_istore (lv' := [(6, .int 117), (5, .int 13), (3, .int 1), (4, .int 0), (2, .int 2), (0, .ref h0), (1, .ref (kA 0))]) hx hb dX7_wordAmong_25 hl (by decide) rfl (fun ls hl => ?_)
  refine lv_iload hx hb dX7_wordAmong_27 (lv_at hl 0 rfl) ?_
  refine lv_bipush (v := 32) hx hb dX7_wordAmong_29 (by decide) ?_
  refine lv_icmp_eq (tgt := 67) hx hb dX7_wordAmong_31 (by decide) (fun c9 => absurd c9 (by decide)) (fun _ => ?_)
  refine lv_iload hx hb dX7_wordAmong_34 (lv_at hl 3 rfl) ?_
  refine lv_if_eq (tgt := 58) hx hb dX7_wordAmong_36 (by decide) (fun _ => ?_) (fun c9 => absurd c9 (by decide))
  refine lv_iconst (v := 0) hx hb dX7_wordAmong_58 (by decide) ?_
  refine lv_istore (lv' := [(4, .int 0), (6, .int 117), (5, .int 13), (3, .int 1), (2, .int 2), (0, .ref h0), (1, .ref (kA 0))]) hx hb dX7_wordAmong_59 hl (by decide) rfl (fun ls hl => ?_)
  refine lv_iinc (v := 2) (lv' := [(3, .int 2), (4, .int 0), (6, .int 117), (5, .int 13), (2, .int 2), (0, .ref h0), (1, .ref (kA 0))]) hx hb dX7_wordAmong_61 hl (k := 3) rfl (by decide) (by decide) rfl (fun ls hl => ?_)
  refine lv_goto (tgt := 98) hx hb dX7_wordAmong_64 (by decide) ?_
  refine lv_iinc (v := 14) (lv' := [(5, .int 14), (3, .int 2), (4, .int 0), (6, .int 117), (2, .int 2), (0, .ref h0), (1, .ref (kA 0))]) hx hb dX7_wordAmong_98 hl (k := 3) rfl (by decide) (by decide) rfl (fun ls hl => ?_)
  refine lv_goto (tgt := 10) hx hb dX7_wordAmong_101 (by decide) ?_
  refine lv_iload hx hb dX7_wordAmong_10 (lv_at hl 0 rfl) ?_
  refine lv_aload_n hx hb dX7_wordAmong_12 rfl (lv_at hl 6 rfl) ?_
  have hPc := hP.sub (ws' := []) [] rfl
  have hDc := hD.sub (ws' := []) [] (by decide) rfl
  have hKc := hK.sub (tys' := []) [] rfl
  have hFc := va_free (wc := []) hD hS hA [] rfl
  refine va_calli (va_runV (As := []) (rest := [.int 14]) ⟨hx, hb, hml, hown, hq⟩ (c_J_length_0 l dC dI _ kA vA  ) (cwV 0 hq (gV qw_551 qw_552 qw_553 qw_133 qw_554) rfl rfl rfl (by decide +kernel) ⟨Nat.le_of_ble_eq_true rfl, Nat.le_of_ble_eq_true rfl⟩) ⟨fun a U g mk q => by obtain ⟨q0, q1, qP, qK, qD, qE, qT⟩ := q; exact ⟨q0, q1, qP, va_K.moved (u := U) (U := U.calling g mk a) (Vm.Alike.refl U.vm) qK, qD, xE.same rfl qE, xT.same rfl qT⟩, xT_recv hT hS (i := 0) (by decide), fun U hU hW => ⟨rfl, by rw [hU], by rw [hU]; exact hPc, va_K.moved hW.alike hKc, hDc.weaken (fun _ _ _ _ => trivial), xE.warm hW hE, by rw [hU]; exact xT.call hW hT hS hFc⟩⟩ rfl rfl hl.1 rfl (lv_room (Nat.le_of_ble_eq_true rfl)) dX7_wordAmong_13 ⟨Nat.le_of_ble_eq_true rfl, Nat.le_of_ble_eq_true rfl⟩) hS (fun q _ h => hFc q h) hFc (fun r_35 u t H1 locs ht hvm hw hB hz1 hk1 hS => ?_)
  obtain ⟨hP1, hK1, hD1⟩ := hB
  rw [ht] at hP1
  have hK1 := va_K.moved hvm.symm hK1
  obtain ⟨hP, hD⟩ := va_join (wr := [(h0, .inr (7, [.ref tx, .int 0, .int 0, .int 0]))]) (w1 := []) hP hD [] [0] rfl rfl (by decide) (by decide) hk1 hFc hP1 hD1
  generalize H1 = H at hP hS ⊢
  have hP : va_P (dC, dI) classes [(h0, .inr (7, [.ref tx, .int 0, .int 0, .int 0]))] H := hP
  have hD : va_D A [(h0, .inr (7, [.ref tx, .int 0, .int 0, .int 0]))] := hD
  obtain rfl : r_35 = 24 := hw
  refine lv_icmp_ge (tgt := 104) hx hb dX7_wordAmong_16 (by decide) (fun c9 => absurd c9 (by decide)) (fun _ => ?_)
  refine lv_aload_n hx hb dX7_wordAmong_19 rfl (lv_at hl 6 rfl) ?_
  refine lv_iload hx hb dX7_wordAmong_20 (lv_at hl 0 rfl) ?_
  have hPc := hP.sub (ws' := []) [] rfl
  have hDc := hD.sub (ws' := []) [] (by decide) rfl
  have hKc := hK.sub (tys' := []) [] rfl
  have hFc := va_free (wc := []) hD hS hA [] rfl
  refine va_calli (va_runV (As := [.int 14]) (rest := []) ⟨hx, hb, hml, hown, hq⟩ (c_J_charAt_0 l dC dI _ kA vA 14 (by decide) (by decide)) (cwV 1 hq (gV qw_561 qw_562 qw_563 qw_133 qw_564) rfl rfl rfl (by decide +kernel) ⟨Nat.le_of_ble_eq_true rfl, Nat.le_of_ble_eq_true rfl⟩) ⟨fun a U g mk q => by obtain ⟨q0, q1, qP, qK, qD, qE, qT⟩ := q; exact ⟨q0, q1, qP, va_K.moved (u := U) (U := U.calling g mk a) (Vm.Alike.refl U.vm) qK, qD, xE.same rfl qE, xT.same rfl qT⟩, xT_recv hT hS (i := 0) (by decide), fun U hU hW => ⟨rfl, by rw [hU], by rw [hU]; exact hPc, va_K.moved hW.alike hKc, hDc.weaken (fun _ _ _ _ => trivial), xE.warm hW hE, by rw [hU]; exact xT.call hW hT hS hFc⟩⟩ rfl rfl hl.1 rfl (lv_room (Nat.le_of_ble_eq_true rfl)) dX7_wordAmong_22 ⟨Nat.le_of_ble_eq_true rfl, Nat.le_of_ble_eq_true rfl⟩) hS (fun q _ h => hFc q h) hFc (fun r_36 u t H1 locs ht hvm hw hB hz1 hk1 hS => ?_)
  obtain ⟨hP1, hK1, hD1⟩ := hB
  rw [ht] at hP1
  have hK1 := va_K.moved hvm.symm hK1
  obtain ⟨hP, hD⟩ := va_join (wr := [(h0, .inr (7, [.ref tx, .int 0, .int 0, .int 0]))]) (w1 := []) hP hD [] [0] rfl rfl (by decide) (by decide) hk1 hFc hP1 hD1
  generalize H1 = H at hP hS ⊢
  have hP : va_P (dC, dI) classes [(h0, .inr (7, [.ref tx, .int 0, .int 0, .int 0]))] H := hP
  have hD : va_D A [(h0, .inr (7, [.ref tx, .int 0, .int 0, .int 0]))] := hD
  obtain rfl : r_36 = 101 := hw.trans (by decide)
  refine lv_istore (lv' := [(6, .int 101), (5, .int 14), (3, .int 2), (4, .int 0), (2, .int 2), (0, .ref h0), (1, .ref (kA 0))]) hx hb dX7_wordAmong_25 hl (by decide) rfl (fun ls hl => ?_)
  refine lv_iload hx hb dX7_wordAmong_27 (lv_at hl 0 rfl) ?_
  refine lv_bipush (v := 32) hx hb dX7_wordAmong_29 (by decide) ?_
  refine lv_icmp_eq (tgt := 67) hx hb dX7_wordAmong_31 (by decide) (fun c9 => absurd c9 (by decide)) (fun _ => ?_)
  refine lv_iload hx hb dX7_wordAmong_34 (lv_at hl 3 rfl) ?_
  refine lv_if_eq (tgt := 58) hx hb dX7_wordAmong_36 (by decide) (fun _ => ?_) (fun c9 => absurd c9 (by decide))
  refine lv_iconst (v := 0) hx hb dX7_wordAmong_58 (by decide) ?_
  refine lv_istore (lv' := [(4, .int 0), (6, .int 101), (5, .int 14), (3, .int 2), (2, .int 2), (0, .ref h0), (1, .ref (kA 0))]) hx hb dX7_wordAmong_59 hl (by decide) rfl (fun ls hl => ?_)
  refine lv_iinc (v := 3) (lv' := [(3, .int 3), (4, .int 0), (6, .int 101), (5, .int 14), (2, .int 2), (0, .ref h0), (1, .ref (kA 0))]) hx hb dX7_wordAmong_61 hl (k := 3) rfl (by decide) (by decide) rfl (fun ls hl => ?_)
  refine lv_goto (tgt := 98) hx hb dX7_wordAmong_64 (by decide) ?_
  refine lv_iinc (v := 15) (lv' := [(5, .int 15), (3, .int 3), (4, .int 0), (6, .int 101), (2, .int 2), (0, .ref h0), (1, .ref (kA 0))]) hx hb dX7_wordAmong_98 hl (k := 3) rfl (by decide) (by decide) rfl (fun ls hl => ?_)
  refine lv_goto (tgt := 10) hx hb dX7_wordAmong_101 (by decide) ?_
  refine lv_iload hx hb dX7_wordAmong_10 (lv_at hl 0 rfl) ?_
  refine lv_aload_n hx hb dX7_wordAmong_12 rfl (lv_at hl 6 rfl) ?_
  have hPc := hP.sub (ws' := []) [] rfl
  have hDc := hD.sub (ws' := []) [] (by decide) rfl
  have hKc := hK.sub (tys' := []) [] rfl
  have hFc := va_free (wc := []) hD hS hA [] rfl
  refine va_calli (va_runV (As := []) (rest := [.int 15]) ⟨hx, hb, hml, hown, hq⟩ (c_J_length_0 l dC dI _ kA vA  ) (cwV 0 hq (gV qw_551 qw_552 qw_553 qw_133 qw_554) rfl rfl rfl (by decide +kernel) ⟨Nat.le_of_ble_eq_true rfl, Nat.le_of_ble_eq_true rfl⟩) ⟨fun a U g mk q => by obtain ⟨q0, q1, qP, qK, qD, qE, qT⟩ := q; exact ⟨q0, q1, qP, va_K.moved (u := U) (U := U.calling g mk a) (Vm.Alike.refl U.vm) qK, qD, xE.same rfl qE, xT.same rfl qT⟩, xT_recv hT hS (i := 0) (by decide), fun U hU hW => ⟨rfl, by rw [hU], by rw [hU]; exact hPc, va_K.moved hW.alike hKc, hDc.weaken (fun _ _ _ _ => trivial), xE.warm hW hE, by rw [hU]; exact xT.call hW hT hS hFc⟩⟩ rfl rfl hl.1 rfl (lv_room (Nat.le_of_ble_eq_true rfl)) dX7_wordAmong_13 ⟨Nat.le_of_ble_eq_true rfl, Nat.le_of_ble_eq_true rfl⟩) hS (fun q _ h => hFc q h) hFc (fun r_37 u t H1 locs ht hvm hw hB hz1 hk1 hS => ?_)
  obtain ⟨hP1, hK1, hD1⟩ := hB
  rw [ht] at hP1
  have hK1 := va_K.moved hvm.symm hK1
  obtain ⟨hP, hD⟩ := va_join (wr := [(h0, .inr (7, [.ref tx, .int 0, .int 0, .int 0]))]) (w1 := []) hP hD [] [0] rfl rfl (by decide) (by decide) hk1 hFc hP1 hD1
  generalize H1 = H at hP hS ⊢
  have hP : va_P (dC, dI) classes [(h0, .inr (7, [.ref tx, .int 0, .int 0, .int 0]))] H := hP
  have hD : va_D A [(h0, .inr (7, [.ref tx, .int 0, .int 0, .int 0]))] := hD
  obtain rfl : r_37 = 24 := hw
  refine lv_icmp_ge (tgt := 104) hx hb dX7_wordAmong_16 (by decide) (fun c9 => absurd c9 (by decide)) (fun _ => ?_)
  refine lv_aload_n hx hb dX7_wordAmong_19 rfl (lv_at hl 6 rfl) ?_
  refine lv_iload hx hb dX7_wordAmong_20 (lv_at hl 0 rfl) ?_
  have hPc := hP.sub (ws' := []) [] rfl
  have hDc := hD.sub (ws' := []) [] (by decide) rfl
  have hKc := hK.sub (tys' := []) [] rfl
  have hFc := va_free (wc := []) hD hS hA [] rfl
  refine va_calli (va_runV (As := [.int 15]) (rest := []) ⟨hx, hb, hml, hown, hq⟩ (c_J_charAt_0 l dC dI _ kA vA 15 (by decide) (by decide)) (cwV 1 hq (gV qw_561 qw_562 qw_563 qw_133 qw_564) rfl rfl rfl (by decide +kernel) ⟨Nat.le_of_ble_eq_true rfl, Nat.le_of_ble_eq_true rfl⟩) ⟨fun a U g mk q => by obtain ⟨q0, q1, qP, qK, qD, qE, qT⟩ := q; exact ⟨q0, q1, qP, va_K.moved (u := U) (U := U.calling g mk a) (Vm.Alike.refl U.vm) qK, qD, xE.same rfl qE, xT.same rfl qT⟩, xT_recv hT hS (i := 0) (by decide), fun U hU hW => ⟨rfl, by rw [hU], by rw [hU]; exact hPc, va_K.moved hW.alike hKc, hDc.weaken (fun _ _ _ _ => trivial), xE.warm hW hE, by rw [hU]; exact xT.call hW hT hS hFc⟩⟩ rfl rfl hl.1 rfl (lv_room (Nat.le_of_ble_eq_true rfl)) dX7_wordAmong_22 ⟨Nat.le_of_ble_eq_true rfl, Nat.le_of_ble_eq_true rfl⟩) hS (fun q _ h => hFc q h) hFc (fun r_38 u t H1 locs ht hvm hw hB hz1 hk1 hS => ?_)
  obtain ⟨hP1, hK1, hD1⟩ := hB
  rw [ht] at hP1
  have hK1 := va_K.moved hvm.symm hK1
  obtain ⟨hP, hD⟩ := va_join (wr := [(h0, .inr (7, [.ref tx, .int 0, .int 0, .int 0]))]) (w1 := []) hP hD [] [0] rfl rfl (by decide) (by decide) hk1 hFc hP1 hD1
  generalize H1 = H at hP hS ⊢
  have hP : va_P (dC, dI) classes [(h0, .inr (7, [.ref tx, .int 0, .int 0, .int 0]))] H := hP
  have hD : va_D A [(h0, .inr (7, [.ref tx, .int 0, .int 0, .int 0]))] := hD
  obtain rfl : r_38 = 115 := hw.trans (by decide)
  refine lv_istore (lv' := [(6, .int 115), (5, .int 15), (3, .int 3), (4, .int 0), (2, .int 2), (0, .ref h0), (1, .ref (kA 0))]) hx hb dX7_wordAmong_25 hl (by decide) rfl (fun ls hl => ?_)
  refine lv_iload hx hb dX7_wordAmong_27 (lv_at hl 0 rfl) ?_
  refine lv_bipush (v := 32) hx hb dX7_wordAmong_29 (by decide) ?_
  refine lv_icmp_eq (tgt := 67) hx hb dX7_wordAmong_31 (by decide) (fun c9 => absurd c9 (by decide)) (fun _ => ?_)
  refine lv_iload hx hb dX7_wordAmong_34 (lv_at hl 3 rfl) ?_
  refine lv_if_eq (tgt := 58) hx hb dX7_wordAmong_36 (by decide) (fun _ => ?_) (fun c9 => absurd c9 (by decide))
  refine lv_iconst (v := 0) hx hb dX7_wordAmong_58 (by decide) ?_
  refine lv_istore (lv' := [(4, .int 0), (6, .int 115), (5, .int 15), (3, .int 3), (2, .int 2), (0, .ref h0), (1, .ref (kA 0))]) hx hb dX7_wordAmong_59 hl (by decide) rfl (fun ls hl => ?_)
  refine lv_iinc (v := 4) (lv' := [(3, .int 4), (4, .int 0), (6, .int 115), (5, .int 15), (2, .int 2), (0, .ref h0), (1, .ref (kA 0))]) hx hb dX7_wordAmong_61 hl (k := 3) rfl (by decide) (by decide) rfl (fun ls hl => ?_)
  refine lv_goto (tgt := 98) hx hb dX7_wordAmong_64 (by decide) ?_
  refine lv_iinc (v := 16) (lv' := [(5, .int 16), (3, .int 4), (4, .int 0), (6, .int 115), (2, .int 2), (0, .ref h0), (1, .ref (kA 0))]) hx hb dX7_wordAmong_98 hl (k := 3) rfl (by decide) (by decide) rfl (fun ls hl => ?_)
  refine lv_goto (tgt := 10) hx hb dX7_wordAmong_101 (by decide) ?_
  refine lv_iload hx hb dX7_wordAmong_10 (lv_at hl 0 rfl) ?_
  refine lv_aload_n hx hb dX7_wordAmong_12 rfl (lv_at hl 6 rfl) ?_
  have hPc := hP.sub (ws' := []) [] rfl
  have hDc := hD.sub (ws' := []) [] (by decide) rfl
  have hKc := hK.sub (tys' := []) [] rfl
  have hFc := va_free (wc := []) hD hS hA [] rfl
  refine va_calli (va_runV (As := []) (rest := [.int 16]) ⟨hx, hb, hml, hown, hq⟩ (c_J_length_0 l dC dI _ kA vA  ) (cwV 0 hq (gV qw_551 qw_552 qw_553 qw_133 qw_554) rfl rfl rfl (by decide +kernel) ⟨Nat.le_of_ble_eq_true rfl, Nat.le_of_ble_eq_true rfl⟩) ⟨fun a U g mk q => by obtain ⟨q0, q1, qP, qK, qD, qE, qT⟩ := q; exact ⟨q0, q1, qP, va_K.moved (u := U) (U := U.calling g mk a) (Vm.Alike.refl U.vm) qK, qD, xE.same rfl qE, xT.same rfl qT⟩, xT_recv hT hS (i := 0) (by decide), fun U hU hW => ⟨rfl, by rw [hU], by rw [hU]; exact hPc, va_K.moved hW.alike hKc, hDc.weaken (fun _ _ _ _ => trivial), xE.warm hW hE, by rw [hU]; exact xT.call hW hT hS hFc⟩⟩ rfl rfl hl.1 rfl (lv_room (Nat.le_of_ble_eq_true rfl)) dX7_wordAmong_13 ⟨Nat.le_of_ble_eq_true rfl, Nat.le_of_ble_eq_true rfl⟩) hS (fun q _ h => hFc q h) hFc (fun r_39 u t H1 locs ht hvm hw hB hz1 hk1 hS => ?_)
  obtain ⟨hP1, hK1, hD1⟩ := hB
  rw [ht] at hP1
  have hK1 := va_K.moved hvm.symm hK1
  obtain ⟨hP, hD⟩ := va_join (wr := [(h0, .inr (7, [.ref tx, .int 0, .int 0, .int 0]))]) (w1 := []) hP hD [] [0] rfl rfl (by decide) (by decide) hk1 hFc hP1 hD1
  generalize H1 = H at hP hS ⊢
  have hP : va_P (dC, dI) classes [(h0, .inr (7, [.ref tx, .int 0, .int 0, .int 0]))] H := hP
  have hD : va_D A [(h0, .inr (7, [.ref tx, .int 0, .int 0, .int 0]))] := hD
  obtain rfl : r_39 = 24 := hw
  refine lv_icmp_ge (tgt := 104) hx hb dX7_wordAmong_16 (by decide) (fun c9 => absurd c9 (by decide)) (fun _ => ?_)
  refine lv_aload_n hx hb dX7_wordAmong_19 rfl (lv_at hl 6 rfl) ?_
  refine lv_iload hx hb dX7_wordAmong_20 (lv_at hl 0 rfl) ?_
  have hPc := hP.sub (ws' := []) [] rfl
  have hDc := hD.sub (ws' := []) [] (by decide) rfl
  have hKc := hK.sub (tys' := []) [] rfl
  have hFc := va_free (wc := []) hD hS hA [] rfl
  refine va_calli (va_runV (As := [.int 16]) (rest := []) ⟨hx, hb, hml, hown, hq⟩ (c_J_charAt_0 l dC dI _ kA vA 16 (by decide) (by decide)) (cwV 1 hq (gV qw_561 qw_562 qw_563 qw_133 qw_564) rfl rfl rfl (by decide +kernel) ⟨Nat.le_of_ble_eq_true rfl, Nat.le_of_ble_eq_true rfl⟩) ⟨fun a U g mk q => by obtain ⟨q0, q1, qP, qK, qD, qE, qT⟩ := q; exact ⟨q0, q1, qP, va_K.moved (u := U) (U := U.calling g mk a) (Vm.Alike.refl U.vm) qK, qD, xE.same rfl qE, xT.same rfl qT⟩, xT_recv hT hS (i := 0) (by decide), fun U hU hW => ⟨rfl, by rw [hU], by rw [hU]; exact hPc, va_K.moved hW.alike hKc, hDc.weaken (fun _ _ _ _ => trivial), xE.warm hW hE, by rw [hU]; exact xT.call hW hT hS hFc⟩⟩ rfl rfl hl.1 rfl (lv_room (Nat.le_of_ble_eq_true rfl)) dX7_wordAmong_22 ⟨Nat.le_of_ble_eq_true rfl, Nat.le_of_ble_eq_true rfl⟩) hS (fun q _ h => hFc q h) hFc (fun r_40 u t H1 locs ht hvm hw hB hz1 hk1 hS => ?_)
  obtain ⟨hP1, hK1, hD1⟩ := hB
  rw [ht] at hP1
  have hK1 := va_K.moved hvm.symm hK1
  obtain ⟨hP, hD⟩ := va_join (wr := [(h0, .inr (7, [.ref tx, .int 0, .int 0, .int 0]))]) (w1 := []) hP hD [] [0] rfl rfl (by decide) (by decide) hk1 hFc hP1 hD1
  generalize H1 = H at hP hS ⊢
  have hP : va_P (dC, dI) classes [(h0, .inr (7, [.ref tx, .int 0, .int 0, .int 0]))] H := hP
  have hD : va_D A [(h0, .inr (7, [.ref tx, .int 0, .int 0, .int 0]))] := hD
  obtain rfl : r_40 = 116 := hw.trans (by decide)
  refine lv_istore (lv' := [(6, .int 116), (5, .int 16), (3, .int 4), (4, .int 0), (2, .int 2), (0, .ref h0), (1, .ref (kA 0))]) hx hb dX7_wordAmong_25 hl (by decide) rfl (fun ls hl => ?_)
  refine lv_iload hx hb dX7_wordAmong_27 (lv_at hl 0 rfl) ?_
  refine lv_bipush (v := 32) hx hb dX7_wordAmong_29 (by decide) ?_
  refine lv_icmp_eq (tgt := 67) hx hb dX7_wordAmong_31 (by decide) (fun c9 => absurd c9 (by decide)) (fun _ => ?_)
  refine lv_iload hx hb dX7_wordAmong_34 (lv_at hl 3 rfl) ?_
  refine lv_if_eq (tgt := 58) hx hb dX7_wordAmong_36 (by decide) (fun _ => ?_) (fun c9 => absurd c9 (by decide))
  refine lv_iconst (v := 0) hx hb dX7_wordAmong_58 (by decide) ?_
  refine lv_istore (lv' := [(4, .int 0), (6, .int 116), (5, .int 16), (3, .int 4), (2, .int 2), (0, .ref h0), (1, .ref (kA 0))]) hx hb dX7_wordAmong_59 hl (by decide) rfl (fun ls hl => ?_)
  refine lv_iinc (v := 5) (lv' := [(3, .int 5), (4, .int 0), (6, .int 116), (5, .int 16), (2, .int 2), (0, .ref h0), (1, .ref (kA 0))]) hx hb dX7_wordAmong_61 hl (k := 3) rfl (by decide) (by decide) rfl (fun ls hl => ?_)
  refine lv_goto (tgt := 98) hx hb dX7_wordAmong_64 (by decide) ?_
  refine lv_iinc (v := 17) (lv' := [(5, .int 17), (3, .int 5), (4, .int 0), (6, .int 116), (2, .int 2), (0, .ref h0), (1, .ref (kA 0))]) hx hb dX7_wordAmong_98 hl (k := 3) rfl (by decide) (by decide) rfl (fun ls hl => ?_)
  refine lv_goto (tgt := 10) hx hb dX7_wordAmong_101 (by decide) ?_
  refine lv_iload hx hb dX7_wordAmong_10 (lv_at hl 0 rfl) ?_
  refine lv_aload_n hx hb dX7_wordAmong_12 rfl (lv_at hl 6 rfl) ?_
  have hPc := hP.sub (ws' := []) [] rfl
  have hDc := hD.sub (ws' := []) [] (by decide) rfl
  have hKc := hK.sub (tys' := []) [] rfl
  have hFc := va_free (wc := []) hD hS hA [] rfl
  refine va_calli (va_runV (As := []) (rest := [.int 17]) ⟨hx, hb, hml, hown, hq⟩ (c_J_length_0 l dC dI _ kA vA  ) (cwV 0 hq (gV qw_551 qw_552 qw_553 qw_133 qw_554) rfl rfl rfl (by decide +kernel) ⟨Nat.le_of_ble_eq_true rfl, Nat.le_of_ble_eq_true rfl⟩) ⟨fun a U g mk q => by obtain ⟨q0, q1, qP, qK, qD, qE, qT⟩ := q; exact ⟨q0, q1, qP, va_K.moved (u := U) (U := U.calling g mk a) (Vm.Alike.refl U.vm) qK, qD, xE.same rfl qE, xT.same rfl qT⟩, xT_recv hT hS (i := 0) (by decide), fun U hU hW => ⟨rfl, by rw [hU], by rw [hU]; exact hPc, va_K.moved hW.alike hKc, hDc.weaken (fun _ _ _ _ => trivial), xE.warm hW hE, by rw [hU]; exact xT.call hW hT hS hFc⟩⟩ rfl rfl hl.1 rfl (lv_room (Nat.le_of_ble_eq_true rfl)) dX7_wordAmong_13 ⟨Nat.le_of_ble_eq_true rfl, Nat.le_of_ble_eq_true rfl⟩) hS (fun q _ h => hFc q h) hFc (fun r_41 u t H1 locs ht hvm hw hB hz1 hk1 hS => ?_)
  obtain ⟨hP1, hK1, hD1⟩ := hB
  rw [ht] at hP1
  have hK1 := va_K.moved hvm.symm hK1
  obtain ⟨hP, hD⟩ := va_join (wr := [(h0, .inr (7, [.ref tx, .int 0, .int 0, .int 0]))]) (w1 := []) hP hD [] [0] rfl rfl (by decide) (by decide) hk1 hFc hP1 hD1
  generalize H1 = H at hP hS ⊢
  have hP : va_P (dC, dI) classes [(h0, .inr (7, [.ref tx, .int 0, .int 0, .int 0]))] H := hP
  have hD : va_D A [(h0, .inr (7, [.ref tx, .int 0, .int 0, .int 0]))] := hD
  obtain rfl : r_41 = 24 := hw
  refine lv_icmp_ge (tgt := 104) hx hb dX7_wordAmong_16 (by decide) (fun c9 => absurd c9 (by decide)) (fun _ => ?_)
  refine lv_aload_n hx hb dX7_wordAmong_19 rfl (lv_at hl 6 rfl) ?_
  refine lv_iload hx hb dX7_wordAmong_20 (lv_at hl 0 rfl) ?_
  have hPc := hP.sub (ws' := []) [] rfl
  have hDc := hD.sub (ws' := []) [] (by decide) rfl
  have hKc := hK.sub (tys' := []) [] rfl
  have hFc := va_free (wc := []) hD hS hA [] rfl
  refine va_calli (va_runV (As := [.int 17]) (rest := []) ⟨hx, hb, hml, hown, hq⟩ (c_J_charAt_0 l dC dI _ kA vA 17 (by decide) (by decide)) (cwV 1 hq (gV qw_561 qw_562 qw_563 qw_133 qw_564) rfl rfl rfl (by decide +kernel) ⟨Nat.le_of_ble_eq_true rfl, Nat.le_of_ble_eq_true rfl⟩) ⟨fun a U g mk q => by obtain ⟨q0, q1, qP, qK, qD, qE, qT⟩ := q; exact ⟨q0, q1, qP, va_K.moved (u := U) (U := U.calling g mk a) (Vm.Alike.refl U.vm) qK, qD, xE.same rfl qE, xT.same rfl qT⟩, xT_recv hT hS (i := 0) (by decide), fun U hU hW => ⟨rfl, by rw [hU], by rw [hU]; exact hPc, va_K.moved hW.alike hKc, hDc.weaken (fun _ _ _ _ => trivial), xE.warm hW hE, by rw [hU]; exact xT.call hW hT hS hFc⟩⟩ rfl rfl hl.1 rfl (lv_room (Nat.le_of_ble_eq_true rfl)) dX7_wordAmong_22 ⟨Nat.le_of_ble_eq_true rfl, Nat.le_of_ble_eq_true rfl⟩) hS (fun q _ h => hFc q h) hFc (fun r_42 u t H1 locs ht hvm hw hB hz1 hk1 hS => ?_)
  obtain ⟨hP1, hK1, hD1⟩ := hB
  rw [ht] at hP1
  have hK1 := va_K.moved hvm.symm hK1
  obtain ⟨hP, hD⟩ := va_join (wr := [(h0, .inr (7, [.ref tx, .int 0, .int 0, .int 0]))]) (w1 := []) hP hD [] [0] rfl rfl (by decide) (by decide) hk1 hFc hP1 hD1
  generalize H1 = H at hP hS ⊢
  have hP : va_P (dC, dI) classes [(h0, .inr (7, [.ref tx, .int 0, .int 0, .int 0]))] H := hP
  have hD : va_D A [(h0, .inr (7, [.ref tx, .int 0, .int 0, .int 0]))] := hD
  obtain rfl : r_42 = 32 := hw.trans (by decide)
  refine lv_istore (lv' := [(6, .int 32), (5, .int 17), (3, .int 5), (4, .int 0), (2, .int 2), (0, .ref h0), (1, .ref (kA 0))]) hx hb dX7_wordAmong_25 hl (by decide) rfl (fun ls hl => ?_)
  refine lv_iload hx hb dX7_wordAmong_27 (lv_at hl 0 rfl) ?_
  refine lv_bipush (v := 32) hx hb dX7_wordAmong_29 (by decide) ?_
  refine lv_icmp_eq (tgt := 67) hx hb dX7_wordAmong_31 (by decide) (fun _ => ?_) (fun c9 => absurd c9 (by decide))
  refine lv_iload hx hb dX7_wordAmong_67 (lv_at hl 3 rfl) ?_
  refine lv_if_eq (tgt := 90) hx hb dX7_wordAmong_69 (by decide) (fun _ => ?_) (fun c9 => absurd c9 (by decide))
  refine lv_iinc (v := 3) (lv' := [(2, .int 3), (6, .int 32), (5, .int 17), (3, .int 5), (4, .int 0), (0, .ref h0), (1, .ref (kA 0))]) hx hb dX7_wordAmong_90 hl (k := 4) rfl (by decide) (by decide) rfl (fun ls hl => ?_)
  refine lv_iconst (v := 0) hx hb dX7_wordAmong_93 (by decide) ?_
  refine lv_istore_n (lv' := [(3, .int 0), (2, .int 3), (6, .int 32), (5, .int 17), (4, .int 0), (0, .ref h0), (1, .ref (kA 0))]) hx hb dX7_wordAmong_94 rfl hl (by decide) rfl (fun ls hl => ?_)
  refine lv_iconst (v := 1) hx hb dX7_wordAmong_95 (by decide) ?_
  refine lv_istore (lv' := [(4, .int 1), (3, .int 0), (2, .int 3), (6, .int 32), (5, .int 17), (0, .ref h0), (1, .ref (kA 0))]) hx hb dX7_wordAmong_96 hl (by decide) rfl (fun ls hl => ?_)
  refine lv_iinc (v := 18) (lv' := [(5, .int 18), (4, .int 1), (3, .int 0), (2, .int 3), (6, .int 32), (0, .ref h0), (1, .ref (kA 0))]) hx hb dX7_wordAmong_98 hl (k := 4) rfl (by decide) (by decide) rfl (fun ls hl => ?_)
  refine lv_goto (tgt := 10) hx hb dX7_wordAmong_101 (by decide) ?_
  refine lv_iload hx hb dX7_wordAmong_10 (lv_at hl 0 rfl) ?_
  refine lv_aload_n hx hb dX7_wordAmong_12 rfl (lv_at hl 6 rfl) ?_
  have hPc := hP.sub (ws' := []) [] rfl
  have hDc := hD.sub (ws' := []) [] (by decide) rfl
  have hKc := hK.sub (tys' := []) [] rfl
  have hFc := va_free (wc := []) hD hS hA [] rfl
  refine va_calli (va_runV (As := []) (rest := [.int 18]) ⟨hx, hb, hml, hown, hq⟩ (c_J_length_0 l dC dI _ kA vA  ) (cwV 0 hq (gV qw_551 qw_552 qw_553 qw_133 qw_554) rfl rfl rfl (by decide +kernel) ⟨Nat.le_of_ble_eq_true rfl, Nat.le_of_ble_eq_true rfl⟩) ⟨fun a U g mk q => by obtain ⟨q0, q1, qP, qK, qD, qE, qT⟩ := q; exact ⟨q0, q1, qP, va_K.moved (u := U) (U := U.calling g mk a) (Vm.Alike.refl U.vm) qK, qD, xE.same rfl qE, xT.same rfl qT⟩, xT_recv hT hS (i := 0) (by decide), fun U hU hW => ⟨rfl, by rw [hU], by rw [hU]; exact hPc, va_K.moved hW.alike hKc, hDc.weaken (fun _ _ _ _ => trivial), xE.warm hW hE, by rw [hU]; exact xT.call hW hT hS hFc⟩⟩ rfl rfl hl.1 rfl (lv_room (Nat.le_of_ble_eq_true rfl)) dX7_wordAmong_13 ⟨Nat.le_of_ble_eq_true rfl, Nat.le_of_ble_eq_true rfl⟩) hS (fun q _ h => hFc q h) hFc (fun r_43 u t H1 locs ht hvm hw hB hz1 hk1 hS => ?_)
  obtain ⟨hP1, hK1, hD1⟩ := hB
  rw [ht] at hP1
  have hK1 := va_K.moved hvm.symm hK1
  obtain ⟨hP, hD⟩ := va_join (wr := [(h0, .inr (7, [.ref tx, .int 0, .int 0, .int 0]))]) (w1 := []) hP hD [] [0] rfl rfl (by decide) (by decide) hk1 hFc hP1 hD1
  generalize H1 = H at hP hS ⊢
  have hP : va_P (dC, dI) classes [(h0, .inr (7, [.ref tx, .int 0, .int 0, .int 0]))] H := hP
  have hD : va_D A [(h0, .inr (7, [.ref tx, .int 0, .int 0, .int 0]))] := hD
  obtain rfl : r_43 = 24 := hw
  refine lv_icmp_ge (tgt := 104) hx hb dX7_wordAmong_16 (by decide) (fun c9 => absurd c9 (by decide)) (fun _ => ?_)
  refine lv_aload_n hx hb dX7_wordAmong_19 rfl (lv_at hl 6 rfl) ?_
  refine lv_iload hx hb dX7_wordAmong_20 (lv_at hl 0 rfl) ?_
  have hPc := hP.sub (ws' := []) [] rfl
  have hDc := hD.sub (ws' := []) [] (by decide) rfl
  have hKc := hK.sub (tys' := []) [] rfl
  have hFc := va_free (wc := []) hD hS hA [] rfl
  refine va_calli (va_runV (As := [.int 18]) (rest := []) ⟨hx, hb, hml, hown, hq⟩ (c_J_charAt_0 l dC dI _ kA vA 18 (by decide) (by decide)) (cwV 1 hq (gV qw_561 qw_562 qw_563 qw_133 qw_564) rfl rfl rfl (by decide +kernel) ⟨Nat.le_of_ble_eq_true rfl, Nat.le_of_ble_eq_true rfl⟩) ⟨fun a U g mk q => by obtain ⟨q0, q1, qP, qK, qD, qE, qT⟩ := q; exact ⟨q0, q1, qP, va_K.moved (u := U) (U := U.calling g mk a) (Vm.Alike.refl U.vm) qK, qD, xE.same rfl qE, xT.same rfl qT⟩, xT_recv hT hS (i := 0) (by decide), fun U hU hW => ⟨rfl, by rw [hU], by rw [hU]; exact hPc, va_K.moved hW.alike hKc, hDc.weaken (fun _ _ _ _ => trivial), xE.warm hW hE, by rw [hU]; exact xT.call hW hT hS hFc⟩⟩ rfl rfl hl.1 rfl (lv_room (Nat.le_of_ble_eq_true rfl)) dX7_wordAmong_22 ⟨Nat.le_of_ble_eq_true rfl, Nat.le_of_ble_eq_true rfl⟩) hS (fun q _ h => hFc q h) hFc (fun r_44 u t H1 locs ht hvm hw hB hz1 hk1 hS => ?_)
  obtain ⟨hP1, hK1, hD1⟩ := hB
  rw [ht] at hP1
  have hK1 := va_K.moved hvm.symm hK1
  obtain ⟨hP, hD⟩ := va_join (wr := [(h0, .inr (7, [.ref tx, .int 0, .int 0, .int 0]))]) (w1 := []) hP hD [] [0] rfl rfl (by decide) (by decide) hk1 hFc hP1 hD1
  generalize H1 = H at hP hS ⊢
  have hP : va_P (dC, dI) classes [(h0, .inr (7, [.ref tx, .int 0, .int 0, .int 0]))] H := hP
  have hD : va_D A [(h0, .inr (7, [.ref tx, .int 0, .int 0, .int 0]))] := hD
  obtain rfl : r_44 = 99 := hw.trans (by decide)
  refine lv_istore (lv' := [(6, .int 99), (5, .int 18), (4, .int 1), (3, .int 0), (2, .int 3), (0, .ref h0), (1, .ref (kA 0))]) hx hb dX7_wordAmong_25 hl (by decide) rfl (fun ls hl => ?_)
  refine lv_iload hx hb dX7_wordAmong_27 (lv_at hl 0 rfl) ?_
  refine lv_bipush (v := 32) hx hb dX7_wordAmong_29 (by decide) ?_
  refine lv_icmp_eq (tgt := 67) hx hb dX7_wordAmong_31 (by decide) (fun c9 => absurd c9 (by decide)) (fun _ => ?_)
  refine lv_iload hx hb dX7_wordAmong_34 (lv_at hl 2 rfl) ?_
  refine lv_if_eq (tgt := 58) hx hb dX7_wordAmong_36 (by decide) (fun c9 => absurd c9 (by decide)) (fun _ => ?_)
  refine lv_aload_n hx hb dX7_wordAmong_39 rfl (lv_at hl 5 rfl) ?_
  refine lv_aload_n hx hb dX7_wordAmong_40 rfl (lv_at hl 5 rfl) ?_
  refine va_get (D := (dC, dI)) (ci := 7) (v := .int 0) (C := RX7) (T := TX7) (N := 4) hx hb hq inX7 hown hK hP 0 rfl rfl 2 (by decide) (hq _ qw_161) (fun _ h9 => h9) rfl dX7_wordAmong_41 ?_
  refine lv_iload_n hx hb dX7_wordAmong_44 rfl (lv_at hl 3 rfl) ?_
  refine lv_iadd hx hb dX7_wordAmong_45 ?_
  refine lv_topi (fun y_45 ey_45 => ?_)
  obtain rfl : y_45 = 0 := ey_45.trans (by decide)
  have hPc := hP.sub (ws' := [(h0, .inr (7, [.ref tx, .int 0, .int 0, .int 0]))]) [0] rfl
  have hDc := hD.sub (ws' := [(h0, .inr (7, [.ref tx, .int 0, .int 0, .int 0]))]) [0] (by decide) rfl
  have hKc := hK.sub (tys' := []) [] rfl
  have hFc := va_free (wc := [(h0, .inr (7, [.ref tx, .int 0, .int 0, .int 0]))]) hD hS hA [0] rfl
  refine va_calli (va_runV (As := [.int 0]) (rest := []) ⟨hx, hb, hml, hown, hq⟩ (c_Rd_byteAt l dC dI _ h0 tx 0 0 ) (cwV 1 hq (gV qw_542 qw_544 qw_1 qw_121 qw_545) rfl rfl rfl (by decide +kernel) ⟨Nat.le_of_ble_eq_true rfl, Nat.le_of_ble_eq_true rfl⟩) ⟨fun a U g mk q => by obtain ⟨q0, q1, qP, qK, qD, qE⟩ := q; exact ⟨q0, q1, qP, va_K.moved (u := U) (U := U.calling g mk a) (Vm.Alike.refl U.vm) qK, qD, xE.same rfl qE⟩, va_recv hKc hPc (ci := 7) (q0 := 0) rfl rfl, fun U hU hW => ⟨rfl, by rw [hU], by rw [hU]; exact hPc, va_K.moved hW.alike hKc, hDc.weaken (fun _ _ _ _ => trivial), xE.warm hW hE⟩⟩ rfl rfl hl.1 rfl (lv_room (Nat.le_of_ble_eq_true rfl)) dX7_wordAmong_46 ⟨Nat.le_of_ble_eq_true rfl, Nat.le_of_ble_eq_true rfl⟩) hS (fun q _ h => hFc q h) hFc (fun r_46 u t H1 locs ht hvm hw hB hz1 hk1 hS => ?_)
  obtain ⟨hP1, hK1, hD1⟩ := hB
  rw [ht] at hP1
  have hK1 := va_K.moved hvm.symm hK1
  obtain ⟨hP, hD⟩ := va_join (wr := []) (w1 := [(h0, .inr (7, [.ref tx, .int 0, .int 0, .int 0]))]) hP hD [0] [] rfl rfl (by decide) (by decide) hk1 hFc hP1 hD1
  generalize H1 = H at hP hS ⊢
  have hP : va_P (dC, dI) classes [(h0, .inr (7, [.ref tx, .int 0, .int 0, .int 0]))] H := hP
  have hD : va_D A [(h0, .inr (7, [.ref tx, .int 0, .int 0, .int 0]))] := hD
  obtain rfl : r_46 = (-1) := hw
  refine lv_iload hx hb dX7_wordAmong_49 (lv_at hl 0 rfl) ?_
  refine lv_icmp_ne (tgt := 58) hx hb dX7_wordAmong_51 (by decide) (fun _ => ?_) (fun c9 => absurd c9 (by decide))
  refine lv_iconst (v := 0) hx hb dX7_wordAmong_58 (by decide) ?_
  refine lv_istore (lv' := [(4, .int 0), (6, .int 99), (5, .int 18), (3, .int 0), (2, .int 3), (0, .ref h0), (1, .ref (kA 0))]) hx hb dX7_wordAmong_59 hl (by decide) rfl (fun ls hl => ?_)
  refine lv_iinc (v := 1) (lv' := [(3, .int 1), (4, .int 0), (6, .int 99), (5, .int 18), (2, .int 3), (0, .ref h0), (1, .ref (kA 0))]) hx hb dX7_wordAmong_61 hl (k := 3) rfl (by decide) (by decide) rfl (fun ls hl => ?_)
  refine lv_goto (tgt := 98) hx hb dX7_wordAmong_64 (by decide) ?_
  refine lv_iinc (v := 19) (lv' := [(5, .int 19), (3, .int 1), (4, .int 0), (6, .int 99), (2, .int 3), (0, .ref h0), (1, .ref (kA 0))]) hx hb dX7_wordAmong_98 hl (k := 3) rfl (by decide) (by decide) rfl (fun ls hl => ?_)
  refine lv_goto (tgt := 10) hx hb dX7_wordAmong_101 (by decide) ?_
  refine lv_iload hx hb dX7_wordAmong_10 (lv_at hl 0 rfl) ?_
  refine lv_aload_n hx hb dX7_wordAmong_12 rfl (lv_at hl 6 rfl) ?_
  have hPc := hP.sub (ws' := []) [] rfl
  have hDc := hD.sub (ws' := []) [] (by decide) rfl
  have hKc := hK.sub (tys' := []) [] rfl
  have hFc := va_free (wc := []) hD hS hA [] rfl
  refine va_calli (va_runV (As := []) (rest := [.int 19]) ⟨hx, hb, hml, hown, hq⟩ (c_J_length_0 l dC dI _ kA vA  ) (cwV 0 hq (gV qw_551 qw_552 qw_553 qw_133 qw_554) rfl rfl rfl (by decide +kernel) ⟨Nat.le_of_ble_eq_true rfl, Nat.le_of_ble_eq_true rfl⟩) ⟨fun a U g mk q => by obtain ⟨q0, q1, qP, qK, qD, qE, qT⟩ := q; exact ⟨q0, q1, qP, va_K.moved (u := U) (U := U.calling g mk a) (Vm.Alike.refl U.vm) qK, qD, xE.same rfl qE, xT.same rfl qT⟩, xT_recv hT hS (i := 0) (by decide), fun U hU hW => ⟨rfl, by rw [hU], by rw [hU]; exact hPc, va_K.moved hW.alike hKc, hDc.weaken (fun _ _ _ _ => trivial), xE.warm hW hE, by rw [hU]; exact xT.call hW hT hS hFc⟩⟩ rfl rfl hl.1 rfl (lv_room (Nat.le_of_ble_eq_true rfl)) dX7_wordAmong_13 ⟨Nat.le_of_ble_eq_true rfl, Nat.le_of_ble_eq_true rfl⟩) hS (fun q _ h => hFc q h) hFc (fun r_47 u t H1 locs ht hvm hw hB hz1 hk1 hS => ?_)
  obtain ⟨hP1, hK1, hD1⟩ := hB
  rw [ht] at hP1
  have hK1 := va_K.moved hvm.symm hK1
  obtain ⟨hP, hD⟩ := va_join (wr := [(h0, .inr (7, [.ref tx, .int 0, .int 0, .int 0]))]) (w1 := []) hP hD [] [0] rfl rfl (by decide) (by decide) hk1 hFc hP1 hD1
  generalize H1 = H at hP hS ⊢
  have hP : va_P (dC, dI) classes [(h0, .inr (7, [.ref tx, .int 0, .int 0, .int 0]))] H := hP
  have hD : va_D A [(h0, .inr (7, [.ref tx, .int 0, .int 0, .int 0]))] := hD
  obtain rfl : r_47 = 24 := hw
  refine lv_icmp_ge (tgt := 104) hx hb dX7_wordAmong_16 (by decide) (fun c9 => absurd c9 (by decide)) (fun _ => ?_)
  refine lv_aload_n hx hb dX7_wordAmong_19 rfl (lv_at hl 6 rfl) ?_
  refine lv_iload hx hb dX7_wordAmong_20 (lv_at hl 0 rfl) ?_
  have hPc := hP.sub (ws' := []) [] rfl
  have hDc := hD.sub (ws' := []) [] (by decide) rfl
  have hKc := hK.sub (tys' := []) [] rfl
  have hFc := va_free (wc := []) hD hS hA [] rfl
  refine va_calli (va_runV (As := [.int 19]) (rest := []) ⟨hx, hb, hml, hown, hq⟩ (c_J_charAt_0 l dC dI _ kA vA 19 (by decide) (by decide)) (cwV 1 hq (gV qw_561 qw_562 qw_563 qw_133 qw_564) rfl rfl rfl (by decide +kernel) ⟨Nat.le_of_ble_eq_true rfl, Nat.le_of_ble_eq_true rfl⟩) ⟨fun a U g mk q => by obtain ⟨q0, q1, qP, qK, qD, qE, qT⟩ := q; exact ⟨q0, q1, qP, va_K.moved (u := U) (U := U.calling g mk a) (Vm.Alike.refl U.vm) qK, qD, xE.same rfl qE, xT.same rfl qT⟩, xT_recv hT hS (i := 0) (by decide), fun U hU hW => ⟨rfl, by rw [hU], by rw [hU]; exact hPc, va_K.moved hW.alike hKc, hDc.weaken (fun _ _ _ _ => trivial), xE.warm hW hE, by rw [hU]; exact xT.call hW hT hS hFc⟩⟩ rfl rfl hl.1 rfl (lv_room (Nat.le_of_ble_eq_true rfl)) dX7_wordAmong_22 ⟨Nat.le_of_ble_eq_true rfl, Nat.le_of_ble_eq_true rfl⟩) hS (fun q _ h => hFc q h) hFc (fun r_48 u t H1 locs ht hvm hw hB hz1 hk1 hS => ?_)
  obtain ⟨hP1, hK1, hD1⟩ := hB
  rw [ht] at hP1
  have hK1 := va_K.moved hvm.symm hK1
  obtain ⟨hP, hD⟩ := va_join (wr := [(h0, .inr (7, [.ref tx, .int 0, .int 0, .int 0]))]) (w1 := []) hP hD [] [0] rfl rfl (by decide) (by decide) hk1 hFc hP1 hD1
  generalize H1 = H at hP hS ⊢
  have hP : va_P (dC, dI) classes [(h0, .inr (7, [.ref tx, .int 0, .int 0, .int 0]))] H := hP
  have hD : va_D A [(h0, .inr (7, [.ref tx, .int 0, .int 0, .int 0]))] := hD
  obtain rfl : r_48 = 108 := hw.trans (by decide)
  refine lv_istore (lv' := [(6, .int 108), (5, .int 19), (3, .int 1), (4, .int 0), (2, .int 3), (0, .ref h0), (1, .ref (kA 0))]) hx hb dX7_wordAmong_25 hl (by decide) rfl (fun ls hl => ?_)
  refine lv_iload hx hb dX7_wordAmong_27 (lv_at hl 0 rfl) ?_
  refine lv_bipush (v := 32) hx hb dX7_wordAmong_29 (by decide) ?_
  refine lv_icmp_eq (tgt := 67) hx hb dX7_wordAmong_31 (by decide) (fun c9 => absurd c9 (by decide)) (fun _ => ?_)
  refine lv_iload hx hb dX7_wordAmong_34 (lv_at hl 3 rfl) ?_
  refine lv_if_eq (tgt := 58) hx hb dX7_wordAmong_36 (by decide) (fun _ => ?_) (fun c9 => absurd c9 (by decide))
  refine lv_iconst (v := 0) hx hb dX7_wordAmong_58 (by decide) ?_
  refine lv_istore (lv' := [(4, .int 0), (6, .int 108), (5, .int 19), (3, .int 1), (2, .int 3), (0, .ref h0), (1, .ref (kA 0))]) hx hb dX7_wordAmong_59 hl (by decide) rfl (fun ls hl => ?_)
  refine lv_iinc (v := 2) (lv' := [(3, .int 2), (4, .int 0), (6, .int 108), (5, .int 19), (2, .int 3), (0, .ref h0), (1, .ref (kA 0))]) hx hb dX7_wordAmong_61 hl (k := 3) rfl (by decide) (by decide) rfl (fun ls hl => ?_)
  refine lv_goto (tgt := 98) hx hb dX7_wordAmong_64 (by decide) ?_
  refine lv_iinc (v := 20) (lv' := [(5, .int 20), (3, .int 2), (4, .int 0), (6, .int 108), (2, .int 3), (0, .ref h0), (1, .ref (kA 0))]) hx hb dX7_wordAmong_98 hl (k := 3) rfl (by decide) (by decide) rfl (fun ls hl => ?_)
  refine lv_goto (tgt := 10) hx hb dX7_wordAmong_101 (by decide) ?_
  refine lv_iload hx hb dX7_wordAmong_10 (lv_at hl 0 rfl) ?_
  refine lv_aload_n hx hb dX7_wordAmong_12 rfl (lv_at hl 6 rfl) ?_
  have hPc := hP.sub (ws' := []) [] rfl
  have hDc := hD.sub (ws' := []) [] (by decide) rfl
  have hKc := hK.sub (tys' := []) [] rfl
  have hFc := va_free (wc := []) hD hS hA [] rfl
  refine va_calli (va_runV (As := []) (rest := [.int 20]) ⟨hx, hb, hml, hown, hq⟩ (c_J_length_0 l dC dI _ kA vA  ) (cwV 0 hq (gV qw_551 qw_552 qw_553 qw_133 qw_554) rfl rfl rfl (by decide +kernel) ⟨Nat.le_of_ble_eq_true rfl, Nat.le_of_ble_eq_true rfl⟩) ⟨fun a U g mk q => by obtain ⟨q0, q1, qP, qK, qD, qE, qT⟩ := q; exact ⟨q0, q1, qP, va_K.moved (u := U) (U := U.calling g mk a) (Vm.Alike.refl U.vm) qK, qD, xE.same rfl qE, xT.same rfl qT⟩, xT_recv hT hS (i := 0) (by decide), fun U hU hW => ⟨rfl, by rw [hU], by rw [hU]; exact hPc, va_K.moved hW.alike hKc, hDc.weaken (fun _ _ _ _ => trivial), xE.warm hW hE, by rw [hU]; exact xT.call hW hT hS hFc⟩⟩ rfl rfl hl.1 rfl (lv_room (Nat.le_of_ble_eq_true rfl)) dX7_wordAmong_13 ⟨Nat.le_of_ble_eq_true rfl, Nat.le_of_ble_eq_true rfl⟩) hS (fun q _ h => hFc q h) hFc (fun r_49 u t H1 locs ht hvm hw hB hz1 hk1 hS => ?_)
  obtain ⟨hP1, hK1, hD1⟩ := hB
  rw [ht] at hP1
  have hK1 := va_K.moved hvm.symm hK1
  obtain ⟨hP, hD⟩ := va_join (wr := [(h0, .inr (7, [.ref tx, .int 0, .int 0, .int 0]))]) (w1 := []) hP hD [] [0] rfl rfl (by decide) (by decide) hk1 hFc hP1 hD1
  generalize H1 = H at hP hS ⊢
  have hP : va_P (dC, dI) classes [(h0, .inr (7, [.ref tx, .int 0, .int 0, .int 0]))] H := hP
  have hD : va_D A [(h0, .inr (7, [.ref tx, .int 0, .int 0, .int 0]))] := hD
  obtain rfl : r_49 = 24 := hw
  refine lv_icmp_ge (tgt := 104) hx hb dX7_wordAmong_16 (by decide) (fun c9 => absurd c9 (by decide)) (fun _ => ?_)
  refine lv_aload_n hx hb dX7_wordAmong_19 rfl (lv_at hl 6 rfl) ?_
  refine lv_iload hx hb dX7_wordAmong_20 (lv_at hl 0 rfl) ?_
  have hPc := hP.sub (ws' := []) [] rfl
  have hDc := hD.sub (ws' := []) [] (by decide) rfl
  have hKc := hK.sub (tys' := []) [] rfl
  have hFc := va_free (wc := []) hD hS hA [] rfl
  refine va_calli (va_runV (As := [.int 20]) (rest := []) ⟨hx, hb, hml, hown, hq⟩ (c_J_charAt_0 l dC dI _ kA vA 20 (by decide) (by decide)) (cwV 1 hq (gV qw_561 qw_562 qw_563 qw_133 qw_564) rfl rfl rfl (by decide +kernel) ⟨Nat.le_of_ble_eq_true rfl, Nat.le_of_ble_eq_true rfl⟩) ⟨fun a U g mk q => by obtain ⟨q0, q1, qP, qK, qD, qE, qT⟩ := q; exact ⟨q0, q1, qP, va_K.moved (u := U) (U := U.calling g mk a) (Vm.Alike.refl U.vm) qK, qD, xE.same rfl qE, xT.same rfl qT⟩, xT_recv hT hS (i := 0) (by decide), fun U hU hW => ⟨rfl, by rw [hU], by rw [hU]; exact hPc, va_K.moved hW.alike hKc, hDc.weaken (fun _ _ _ _ => trivial), xE.warm hW hE, by rw [hU]; exact xT.call hW hT hS hFc⟩⟩ rfl rfl hl.1 rfl (lv_room (Nat.le_of_ble_eq_true rfl)) dX7_wordAmong_22 ⟨Nat.le_of_ble_eq_true rfl, Nat.le_of_ble_eq_true rfl⟩) hS (fun q _ h => hFc q h) hFc (fun r_50 u t H1 locs ht hvm hw hB hz1 hk1 hS => ?_)
  obtain ⟨hP1, hK1, hD1⟩ := hB
  rw [ht] at hP1
  have hK1 := va_K.moved hvm.symm hK1
  obtain ⟨hP, hD⟩ := va_join (wr := [(h0, .inr (7, [.ref tx, .int 0, .int 0, .int 0]))]) (w1 := []) hP hD [] [0] rfl rfl (by decide) (by decide) hk1 hFc hP1 hD1
  generalize H1 = H at hP hS ⊢
  have hP : va_P (dC, dI) classes [(h0, .inr (7, [.ref tx, .int 0, .int 0, .int 0]))] H := hP
  have hD : va_D A [(h0, .inr (7, [.ref tx, .int 0, .int 0, .int 0]))] := hD
  obtain rfl : r_50 = 97 := hw.trans (by decide)
  refine lv_istore (lv' := [(6, .int 97), (5, .int 20), (3, .int 2), (4, .int 0), (2, .int 3), (0, .ref h0), (1, .ref (kA 0))]) hx hb dX7_wordAmong_25 hl (by decide) rfl (fun ls hl => ?_)
  refine lv_iload hx hb dX7_wordAmong_27 (lv_at hl 0 rfl) ?_
  refine lv_bipush (v := 32) hx hb dX7_wordAmong_29 (by decide) ?_
  refine lv_icmp_eq (tgt := 67) hx hb dX7_wordAmong_31 (by decide) (fun c9 => absurd c9 (by decide)) (fun _ => ?_)
  refine lv_iload hx hb dX7_wordAmong_34 (lv_at hl 3 rfl) ?_
  refine lv_if_eq (tgt := 58) hx hb dX7_wordAmong_36 (by decide) (fun _ => ?_) (fun c9 => absurd c9 (by decide))
  refine lv_iconst (v := 0) hx hb dX7_wordAmong_58 (by decide) ?_
  refine lv_istore (lv' := [(4, .int 0), (6, .int 97), (5, .int 20), (3, .int 2), (2, .int 3), (0, .ref h0), (1, .ref (kA 0))]) hx hb dX7_wordAmong_59 hl (by decide) rfl (fun ls hl => ?_)
  refine lv_iinc (v := 3) (lv' := [(3, .int 3), (4, .int 0), (6, .int 97), (5, .int 20), (2, .int 3), (0, .ref h0), (1, .ref (kA 0))]) hx hb dX7_wordAmong_61 hl (k := 3) rfl (by decide) (by decide) rfl (fun ls hl => ?_)
  refine lv_goto (tgt := 98) hx hb dX7_wordAmong_64 (by decide) ?_
  refine lv_iinc (v := 21) (lv' := [(5, .int 21), (3, .int 3), (4, .int 0), (6, .int 97), (2, .int 3), (0, .ref h0), (1, .ref (kA 0))]) hx hb dX7_wordAmong_98 hl (k := 3) rfl (by decide) (by decide) rfl (fun ls hl => ?_)
  refine lv_goto (tgt := 10) hx hb dX7_wordAmong_101 (by decide) ?_
  refine lv_iload hx hb dX7_wordAmong_10 (lv_at hl 0 rfl) ?_
  refine lv_aload_n hx hb dX7_wordAmong_12 rfl (lv_at hl 6 rfl) ?_
  have hPc := hP.sub (ws' := []) [] rfl
  have hDc := hD.sub (ws' := []) [] (by decide) rfl
  have hKc := hK.sub (tys' := []) [] rfl
  have hFc := va_free (wc := []) hD hS hA [] rfl
  refine va_calli (va_runV (As := []) (rest := [.int 21]) ⟨hx, hb, hml, hown, hq⟩ (c_J_length_0 l dC dI _ kA vA  ) (cwV 0 hq (gV qw_551 qw_552 qw_553 qw_133 qw_554) rfl rfl rfl (by decide +kernel) ⟨Nat.le_of_ble_eq_true rfl, Nat.le_of_ble_eq_true rfl⟩) ⟨fun a U g mk q => by obtain ⟨q0, q1, qP, qK, qD, qE, qT⟩ := q; exact ⟨q0, q1, qP, va_K.moved (u := U) (U := U.calling g mk a) (Vm.Alike.refl U.vm) qK, qD, xE.same rfl qE, xT.same rfl qT⟩, xT_recv hT hS (i := 0) (by decide), fun U hU hW => ⟨rfl, by rw [hU], by rw [hU]; exact hPc, va_K.moved hW.alike hKc, hDc.weaken (fun _ _ _ _ => trivial), xE.warm hW hE, by rw [hU]; exact xT.call hW hT hS hFc⟩⟩ rfl rfl hl.1 rfl (lv_room (Nat.le_of_ble_eq_true rfl)) dX7_wordAmong_13 ⟨Nat.le_of_ble_eq_true rfl, Nat.le_of_ble_eq_true rfl⟩) hS (fun q _ h => hFc q h) hFc (fun r_51 u t H1 locs ht hvm hw hB hz1 hk1 hS => ?_)
  obtain ⟨hP1, hK1, hD1⟩ := hB
  rw [ht] at hP1
  have hK1 := va_K.moved hvm.symm hK1
  obtain ⟨hP, hD⟩ := va_join (wr := [(h0, .inr (7, [.ref tx, .int 0, .int 0, .int 0]))]) (w1 := []) hP hD [] [0] rfl rfl (by decide) (by decide) hk1 hFc hP1 hD1
  generalize H1 = H at hP hS ⊢
  have hP : va_P (dC, dI) classes [(h0, .inr (7, [.ref tx, .int 0, .int 0, .int 0]))] H := hP
  have hD : va_D A [(h0, .inr (7, [.ref tx, .int 0, .int 0, .int 0]))] := hD
  obtain rfl : r_51 = 24 := hw
  refine lv_icmp_ge (tgt := 104) hx hb dX7_wordAmong_16 (by decide) (fun c9 => absurd c9 (by decide)) (fun _ => ?_)
  refine lv_aload_n hx hb dX7_wordAmong_19 rfl (lv_at hl 6 rfl) ?_
  refine lv_iload hx hb dX7_wordAmong_20 (lv_at hl 0 rfl) ?_
  have hPc := hP.sub (ws' := []) [] rfl
  have hDc := hD.sub (ws' := []) [] (by decide) rfl
  have hKc := hK.sub (tys' := []) [] rfl
  have hFc := va_free (wc := []) hD hS hA [] rfl
  refine va_calli (va_runV (As := [.int 21]) (rest := []) ⟨hx, hb, hml, hown, hq⟩ (c_J_charAt_0 l dC dI _ kA vA 21 (by decide) (by decide)) (cwV 1 hq (gV qw_561 qw_562 qw_563 qw_133 qw_564) rfl rfl rfl (by decide +kernel) ⟨Nat.le_of_ble_eq_true rfl, Nat.le_of_ble_eq_true rfl⟩) ⟨fun a U g mk q => by obtain ⟨q0, q1, qP, qK, qD, qE, qT⟩ := q; exact ⟨q0, q1, qP, va_K.moved (u := U) (U := U.calling g mk a) (Vm.Alike.refl U.vm) qK, qD, xE.same rfl qE, xT.same rfl qT⟩, xT_recv hT hS (i := 0) (by decide), fun U hU hW => ⟨rfl, by rw [hU], by rw [hU]; exact hPc, va_K.moved hW.alike hKc, hDc.weaken (fun _ _ _ _ => trivial), xE.warm hW hE, by rw [hU]; exact xT.call hW hT hS hFc⟩⟩ rfl rfl hl.1 rfl (lv_room (Nat.le_of_ble_eq_true rfl)) dX7_wordAmong_22 ⟨Nat.le_of_ble_eq_true rfl, Nat.le_of_ble_eq_true rfl⟩) hS (fun q _ h => hFc q h) hFc (fun r_52 u t H1 locs ht hvm hw hB hz1 hk1 hS => ?_)
  obtain ⟨hP1, hK1, hD1⟩ := hB
  rw [ht] at hP1
  have hK1 := va_K.moved hvm.symm hK1
  obtain ⟨hP, hD⟩ := va_join (wr := [(h0, .inr (7, [.ref tx, .int 0, .int 0, .int 0]))]) (w1 := []) hP hD [] [0] rfl rfl (by decide) (by decide) hk1 hFc hP1 hD1
  generalize H1 = H at hP hS ⊢
  have hP : va_P (dC, dI) classes [(h0, .inr (7, [.ref tx, .int 0, .int 0, .int 0]))] H := hP
  have hD : va_D A [(h0, .inr (7, [.ref tx, .int 0, .int 0, .int 0]))] := hD
  obtain rfl : r_52 = 115 := hw.trans (by decide)
  refine lv_istore (lv' := [(6, .int 115), (5, .int 21), (3, .int 3), (4, .int 0), (2, .int 3), (0, .ref h0), (1, .ref (kA 0))]) hx hb dX7_wordAmong_25 hl (by decide) rfl (fun ls hl => ?_)
  refine lv_iload hx hb dX7_wordAmong_27 (lv_at hl 0 rfl) ?_
  refine lv_bipush (v := 32) hx hb dX7_wordAmong_29 (by decide) ?_
  refine lv_icmp_eq (tgt := 67) hx hb dX7_wordAmong_31 (by decide) (fun c9 => absurd c9 (by decide)) (fun _ => ?_)
  refine lv_iload hx hb dX7_wordAmong_34 (lv_at hl 3 rfl) ?_
  refine lv_if_eq (tgt := 58) hx hb dX7_wordAmong_36 (by decide) (fun _ => ?_) (fun c9 => absurd c9 (by decide))
  refine lv_iconst (v := 0) hx hb dX7_wordAmong_58 (by decide) ?_
  refine lv_istore (lv' := [(4, .int 0), (6, .int 115), (5, .int 21), (3, .int 3), (2, .int 3), (0, .ref h0), (1, .ref (kA 0))]) hx hb dX7_wordAmong_59 hl (by decide) rfl (fun ls hl => ?_)
  refine lv_iinc (v := 4) (lv' := [(3, .int 4), (4, .int 0), (6, .int 115), (5, .int 21), (2, .int 3), (0, .ref h0), (1, .ref (kA 0))]) hx hb dX7_wordAmong_61 hl (k := 3) rfl (by decide) (by decide) rfl (fun ls hl => ?_)
  refine lv_goto (tgt := 98) hx hb dX7_wordAmong_64 (by decide) ?_
  refine lv_iinc (v := 22) (lv' := [(5, .int 22), (3, .int 4), (4, .int 0), (6, .int 115), (2, .int 3), (0, .ref h0), (1, .ref (kA 0))]) hx hb dX7_wordAmong_98 hl (k := 3) rfl (by decide) (by decide) rfl (fun ls hl => ?_)
  refine lv_goto (tgt := 10) hx hb dX7_wordAmong_101 (by decide) ?_
  refine lv_iload hx hb dX7_wordAmong_10 (lv_at hl 0 rfl) ?_
  refine lv_aload_n hx hb dX7_wordAmong_12 rfl (lv_at hl 6 rfl) ?_
  have hPc := hP.sub (ws' := []) [] rfl
  have hDc := hD.sub (ws' := []) [] (by decide) rfl
  have hKc := hK.sub (tys' := []) [] rfl
  have hFc := va_free (wc := []) hD hS hA [] rfl
  refine va_calli (va_runV (As := []) (rest := [.int 22]) ⟨hx, hb, hml, hown, hq⟩ (c_J_length_0 l dC dI _ kA vA  ) (cwV 0 hq (gV qw_551 qw_552 qw_553 qw_133 qw_554) rfl rfl rfl (by decide +kernel) ⟨Nat.le_of_ble_eq_true rfl, Nat.le_of_ble_eq_true rfl⟩) ⟨fun a U g mk q => by obtain ⟨q0, q1, qP, qK, qD, qE, qT⟩ := q; exact ⟨q0, q1, qP, va_K.moved (u := U) (U := U.calling g mk a) (Vm.Alike.refl U.vm) qK, qD, xE.same rfl qE, xT.same rfl qT⟩, xT_recv hT hS (i := 0) (by decide), fun U hU hW => ⟨rfl, by rw [hU], by rw [hU]; exact hPc, va_K.moved hW.alike hKc, hDc.weaken (fun _ _ _ _ => trivial), xE.warm hW hE, by rw [hU]; exact xT.call hW hT hS hFc⟩⟩ rfl rfl hl.1 rfl (lv_room (Nat.le_of_ble_eq_true rfl)) dX7_wordAmong_13 ⟨Nat.le_of_ble_eq_true rfl, Nat.le_of_ble_eq_true rfl⟩) hS (fun q _ h => hFc q h) hFc (fun r_53 u t H1 locs ht hvm hw hB hz1 hk1 hS => ?_)
  obtain ⟨hP1, hK1, hD1⟩ := hB
  rw [ht] at hP1
  have hK1 := va_K.moved hvm.symm hK1
  obtain ⟨hP, hD⟩ := va_join (wr := [(h0, .inr (7, [.ref tx, .int 0, .int 0, .int 0]))]) (w1 := []) hP hD [] [0] rfl rfl (by decide) (by decide) hk1 hFc hP1 hD1
  generalize H1 = H at hP hS ⊢
  have hP : va_P (dC, dI) classes [(h0, .inr (7, [.ref tx, .int 0, .int 0, .int 0]))] H := hP
  have hD : va_D A [(h0, .inr (7, [.ref tx, .int 0, .int 0, .int 0]))] := hD
  obtain rfl : r_53 = 24 := hw
  refine lv_icmp_ge (tgt := 104) hx hb dX7_wordAmong_16 (by decide) (fun c9 => absurd c9 (by decide)) (fun _ => ?_)
  refine lv_aload_n hx hb dX7_wordAmong_19 rfl (lv_at hl 6 rfl) ?_
  refine lv_iload hx hb dX7_wordAmong_20 (lv_at hl 0 rfl) ?_
  have hPc := hP.sub (ws' := []) [] rfl
  have hDc := hD.sub (ws' := []) [] (by decide) rfl
  have hKc := hK.sub (tys' := []) [] rfl
  have hFc := va_free (wc := []) hD hS hA [] rfl
  refine va_calli (va_runV (As := [.int 22]) (rest := []) ⟨hx, hb, hml, hown, hq⟩ (c_J_charAt_0 l dC dI _ kA vA 22 (by decide) (by decide)) (cwV 1 hq (gV qw_561 qw_562 qw_563 qw_133 qw_564) rfl rfl rfl (by decide +kernel) ⟨Nat.le_of_ble_eq_true rfl, Nat.le_of_ble_eq_true rfl⟩) ⟨fun a U g mk q => by obtain ⟨q0, q1, qP, qK, qD, qE, qT⟩ := q; exact ⟨q0, q1, qP, va_K.moved (u := U) (U := U.calling g mk a) (Vm.Alike.refl U.vm) qK, qD, xE.same rfl qE, xT.same rfl qT⟩, xT_recv hT hS (i := 0) (by decide), fun U hU hW => ⟨rfl, by rw [hU], by rw [hU]; exact hPc, va_K.moved hW.alike hKc, hDc.weaken (fun _ _ _ _ => trivial), xE.warm hW hE, by rw [hU]; exact xT.call hW hT hS hFc⟩⟩ rfl rfl hl.1 rfl (lv_room (Nat.le_of_ble_eq_true rfl)) dX7_wordAmong_22 ⟨Nat.le_of_ble_eq_true rfl, Nat.le_of_ble_eq_true rfl⟩) hS (fun q _ h => hFc q h) hFc (fun r_54 u t H1 locs ht hvm hw hB hz1 hk1 hS => ?_)
  obtain ⟨hP1, hK1, hD1⟩ := hB
  rw [ht] at hP1
  have hK1 := va_K.moved hvm.symm hK1
  obtain ⟨hP, hD⟩ := va_join (wr := [(h0, .inr (7, [.ref tx, .int 0, .int 0, .int 0]))]) (w1 := []) hP hD [] [0] rfl rfl (by decide) (by decide) hk1 hFc hP1 hD1
  generalize H1 = H at hP hS ⊢
  have hP : va_P (dC, dI) classes [(h0, .inr (7, [.ref tx, .int 0, .int 0, .int 0]))] H := hP
  have hD : va_D A [(h0, .inr (7, [.ref tx, .int 0, .int 0, .int 0]))] := hD
  obtain rfl : r_54 = 104 := hw.trans (by decide)
  refine lv_istore (lv' := [(6, .int 104), (5, .int 22), (3, .int 4), (4, .int 0), (2, .int 3), (0, .ref h0), (1, .ref (kA 0))]) hx hb dX7_wordAmong_25 hl (by decide) rfl (fun ls hl => ?_)
  refine lv_iload hx hb dX7_wordAmong_27 (lv_at hl 0 rfl) ?_
  refine lv_bipush (v := 32) hx hb dX7_wordAmong_29 (by decide) ?_
  refine lv_icmp_eq (tgt := 67) hx hb dX7_wordAmong_31 (by decide) (fun c9 => absurd c9 (by decide)) (fun _ => ?_)
  refine lv_iload hx hb dX7_wordAmong_34 (lv_at hl 3 rfl) ?_
  refine lv_if_eq (tgt := 58) hx hb dX7_wordAmong_36 (by decide) (fun _ => ?_) (fun c9 => absurd c9 (by decide))
  refine lv_iconst (v := 0) hx hb dX7_wordAmong_58 (by decide) ?_
  refine lv_istore (lv' := [(4, .int 0), (6, .int 104), (5, .int 22), (3, .int 4), (2, .int 3), (0, .ref h0), (1, .ref (kA 0))]) hx hb dX7_wordAmong_59 hl (by decide) rfl (fun ls hl => ?_)
  refine lv_iinc (v := 5) (lv' := [(3, .int 5), (4, .int 0), (6, .int 104), (5, .int 22), (2, .int 3), (0, .ref h0), (1, .ref (kA 0))]) hx hb dX7_wordAmong_61 hl (k := 3) rfl (by decide) (by decide) rfl (fun ls hl => ?_)
  refine lv_goto (tgt := 98) hx hb dX7_wordAmong_64 (by decide) ?_
  refine lv_iinc (v := 23) (lv' := [(5, .int 23), (3, .int 5), (4, .int 0), (6, .int 104), (2, .int 3), (0, .ref h0), (1, .ref (kA 0))]) hx hb dX7_wordAmong_98 hl (k := 3) rfl (by decide) (by decide) rfl (fun ls hl => ?_)
  refine lv_goto (tgt := 10) hx hb dX7_wordAmong_101 (by decide) ?_
  refine lv_iload hx hb dX7_wordAmong_10 (lv_at hl 0 rfl) ?_
  refine lv_aload_n hx hb dX7_wordAmong_12 rfl (lv_at hl 6 rfl) ?_
  have hPc := hP.sub (ws' := []) [] rfl
  have hDc := hD.sub (ws' := []) [] (by decide) rfl
  have hKc := hK.sub (tys' := []) [] rfl
  have hFc := va_free (wc := []) hD hS hA [] rfl
  refine va_calli (va_runV (As := []) (rest := [.int 23]) ⟨hx, hb, hml, hown, hq⟩ (c_J_length_0 l dC dI _ kA vA  ) (cwV 0 hq (gV qw_551 qw_552 qw_553 qw_133 qw_554) rfl rfl rfl (by decide +kernel) ⟨Nat.le_of_ble_eq_true rfl, Nat.le_of_ble_eq_true rfl⟩) ⟨fun a U g mk q => by obtain ⟨q0, q1, qP, qK, qD, qE, qT⟩ := q; exact ⟨q0, q1, qP, va_K.moved (u := U) (U := U.calling g mk a) (Vm.Alike.refl U.vm) qK, qD, xE.same rfl qE, xT.same rfl qT⟩, xT_recv hT hS (i := 0) (by decide), fun U hU hW => ⟨rfl, by rw [hU], by rw [hU]; exact hPc, va_K.moved hW.alike hKc, hDc.weaken (fun _ _ _ _ => trivial), xE.warm hW hE, by rw [hU]; exact xT.call hW hT hS hFc⟩⟩ rfl rfl hl.1 rfl (lv_room (Nat.le_of_ble_eq_true rfl)) dX7_wordAmong_13 ⟨Nat.le_of_ble_eq_true rfl, Nat.le_of_ble_eq_true rfl⟩) hS (fun q _ h => hFc q h) hFc (fun r_55 u t H1 locs ht hvm hw hB hz1 hk1 hS => ?_)
  obtain ⟨hP1, hK1, hD1⟩ := hB
  rw [ht] at hP1
  have hK1 := va_K.moved hvm.symm hK1
  obtain ⟨hP, hD⟩ := va_join (wr := [(h0, .inr (7, [.ref tx, .int 0, .int 0, .int 0]))]) (w1 := []) hP hD [] [0] rfl rfl (by decide) (by decide) hk1 hFc hP1 hD1
  generalize H1 = H at hP hS ⊢
  have hP : va_P (dC, dI) classes [(h0, .inr (7, [.ref tx, .int 0, .int 0, .int 0]))] H := hP
  have hD : va_D A [(h0, .inr (7, [.ref tx, .int 0, .int 0, .int 0]))] := hD
  obtain rfl : r_55 = 24 := hw
  refine lv_icmp_ge (tgt := 104) hx hb dX7_wordAmong_16 (by decide) (fun c9 => absurd c9 (by decide)) (fun _ => ?_)
  refine lv_aload_n hx hb dX7_wordAmong_19 rfl (lv_at hl 6 rfl) ?_
  refine lv_iload hx hb dX7_wordAmong_20 (lv_at hl 0 rfl) ?_
  have hPc := hP.sub (ws' := []) [] rfl
  have hDc := hD.sub (ws' := []) [] (by decide) rfl
  have hKc := hK.sub (tys' := []) [] rfl
  have hFc := va_free (wc := []) hD hS hA [] rfl
  refine va_calli (va_runV (As := [.int 23]) (rest := []) ⟨hx, hb, hml, hown, hq⟩ (c_J_charAt_0 l dC dI _ kA vA 23 (by decide) (by decide)) (cwV 1 hq (gV qw_561 qw_562 qw_563 qw_133 qw_564) rfl rfl rfl (by decide +kernel) ⟨Nat.le_of_ble_eq_true rfl, Nat.le_of_ble_eq_true rfl⟩) ⟨fun a U g mk q => by obtain ⟨q0, q1, qP, qK, qD, qE, qT⟩ := q; exact ⟨q0, q1, qP, va_K.moved (u := U) (U := U.calling g mk a) (Vm.Alike.refl U.vm) qK, qD, xE.same rfl qE, xT.same rfl qT⟩, xT_recv hT hS (i := 0) (by decide), fun U hU hW => ⟨rfl, by rw [hU], by rw [hU]; exact hPc, va_K.moved hW.alike hKc, hDc.weaken (fun _ _ _ _ => trivial), xE.warm hW hE, by rw [hU]; exact xT.call hW hT hS hFc⟩⟩ rfl rfl hl.1 rfl (lv_room (Nat.le_of_ble_eq_true rfl)) dX7_wordAmong_22 ⟨Nat.le_of_ble_eq_true rfl, Nat.le_of_ble_eq_true rfl⟩) hS (fun q _ h => hFc q h) hFc (fun r_56 u t H1 locs ht hvm hw hB hz1 hk1 hS => ?_)
  obtain ⟨hP1, hK1, hD1⟩ := hB
  rw [ht] at hP1
  have hK1 := va_K.moved hvm.symm hK1
  obtain ⟨hP, hD⟩ := va_join (wr := [(h0, .inr (7, [.ref tx, .int 0, .int 0, .int 0]))]) (w1 := []) hP hD [] [0] rfl rfl (by decide) (by decide) hk1 hFc hP1 hD1
  generalize H1 = H at hP hS ⊢
  have hP : va_P (dC, dI) classes [(h0, .inr (7, [.ref tx, .int 0, .int 0, .int 0]))] H := hP
  have hD : va_D A [(h0, .inr (7, [.ref tx, .int 0, .int 0, .int 0]))] := hD
  obtain rfl : r_56 = 32 := hw.trans (by decide)
  refine lv_istore (lv' := [(6, .int 32), (5, .int 23), (3, .int 5), (4, .int 0), (2, .int 3), (0, .ref h0), (1, .ref (kA 0))]) hx hb dX7_wordAmong_25 hl (by decide) rfl (fun ls hl => ?_)
  refine lv_iload hx hb dX7_wordAmong_27 (lv_at hl 0 rfl) ?_
  refine lv_bipush (v := 32) hx hb dX7_wordAmong_29 (by decide) ?_
  refine lv_icmp_eq (tgt := 67) hx hb dX7_wordAmong_31 (by decide) (fun _ => ?_) (fun c9 => absurd c9 (by decide))
  refine lv_iload hx hb dX7_wordAmong_67 (lv_at hl 3 rfl) ?_
  refine lv_if_eq (tgt := 90) hx hb dX7_wordAmong_69 (by decide) (fun _ => ?_) (fun c9 => absurd c9 (by decide))
  refine lv_iinc (v := 4) (lv' := [(2, .int 4), (6, .int 32), (5, .int 23), (3, .int 5), (4, .int 0), (0, .ref h0), (1, .ref (kA 0))]) hx hb dX7_wordAmong_90 hl (k := 4) rfl (by decide) (by decide) rfl (fun ls hl => ?_)
  refine lv_iconst (v := 0) hx hb dX7_wordAmong_93 (by decide) ?_
  refine lv_istore_n (lv' := [(3, .int 0), (2, .int 4), (6, .int 32), (5, .int 23), (4, .int 0), (0, .ref h0), (1, .ref (kA 0))]) hx hb dX7_wordAmong_94 rfl hl (by decide) rfl (fun ls hl => ?_)
  refine lv_iconst (v := 1) hx hb dX7_wordAmong_95 (by decide) ?_
  refine lv_istore (lv' := [(4, .int 1), (3, .int 0), (2, .int 4), (6, .int 32), (5, .int 23), (0, .ref h0), (1, .ref (kA 0))]) hx hb dX7_wordAmong_96 hl (by decide) rfl (fun ls hl => ?_)
  refine lv_iinc (v := 24) (lv' := [(5, .int 24), (4, .int 1), (3, .int 0), (2, .int 4), (6, .int 32), (0, .ref h0), (1, .ref (kA 0))]) hx hb dX7_wordAmong_98 hl (k := 4) rfl (by decide) (by decide) rfl (fun ls hl => ?_)
  refine lv_goto (tgt := 10) hx hb dX7_wordAmong_101 (by decide) ?_
  refine lv_iload hx hb dX7_wordAmong_10 (lv_at hl 0 rfl) ?_
  refine lv_aload_n hx hb dX7_wordAmong_12 rfl (lv_at hl 6 rfl) ?_
  have hPc := hP.sub (ws' := []) [] rfl
  have hDc := hD.sub (ws' := []) [] (by decide) rfl
  have hKc := hK.sub (tys' := []) [] rfl
  have hFc := va_free (wc := []) hD hS hA [] rfl
  refine va_calli (va_runV (As := []) (rest := [.int 24]) ⟨hx, hb, hml, hown, hq⟩ (c_J_length_0 l dC dI _ kA vA  ) (cwV 0 hq (gV qw_551 qw_552 qw_553 qw_133 qw_554) rfl rfl rfl (by decide +kernel) ⟨Nat.le_of_ble_eq_true rfl, Nat.le_of_ble_eq_true rfl⟩) ⟨fun a U g mk q => by obtain ⟨q0, q1, qP, qK, qD, qE, qT⟩ := q; exact ⟨q0, q1, qP, va_K.moved (u := U) (U := U.calling g mk a) (Vm.Alike.refl U.vm) qK, qD, xE.same rfl qE, xT.same rfl qT⟩, xT_recv hT hS (i := 0) (by decide), fun U hU hW => ⟨rfl, by rw [hU], by rw [hU]; exact hPc, va_K.moved hW.alike hKc, hDc.weaken (fun _ _ _ _ => trivial), xE.warm hW hE, by rw [hU]; exact xT.call hW hT hS hFc⟩⟩ rfl rfl hl.1 rfl (lv_room (Nat.le_of_ble_eq_true rfl)) dX7_wordAmong_13 ⟨Nat.le_of_ble_eq_true rfl, Nat.le_of_ble_eq_true rfl⟩) hS (fun q _ h => hFc q h) hFc (fun r_57 u t H1 locs ht hvm hw hB hz1 hk1 hS => ?_)
  obtain ⟨hP1, hK1, hD1⟩ := hB
  rw [ht] at hP1
  have hK1 := va_K.moved hvm.symm hK1
  obtain ⟨hP, hD⟩ := va_join (wr := [(h0, .inr (7, [.ref tx, .int 0, .int 0, .int 0]))]) (w1 := []) hP hD [] [0] rfl rfl (by decide) (by decide) hk1 hFc hP1 hD1
  generalize H1 = H at hP hS ⊢
  have hP : va_P (dC, dI) classes [(h0, .inr (7, [.ref tx, .int 0, .int 0, .int 0]))] H := hP
  have hD : va_D A [(h0, .inr (7, [.ref tx, .int 0, .int 0, .int 0]))] := hD
  obtain rfl : r_57 = 24 := hw
  refine lv_icmp_ge (tgt := 104) hx hb dX7_wordAmong_16 (by decide) (fun _ => ?_) (fun c9 => absurd c9 (by decide))
  refine lv_iconst (v := (-1)) hx hb dX7_wordAmong_104 (by decide) ?_
  have hP9 := hP.sub (ws' := [(h0, .inr (7, [.ref tx, .int 0, .int 0, .int 0]))]) [0] rfl
  have hD9 := hD.sub (ws' := [(h0, .inr (7, [.ref tx, .int 0, .int 0, .int 0]))]) [0] (by decide) rfl
  have hK9 := hK.sub (tys' := []) [] rfl
  refine W.widen (k := 0) (n := 0) (Nat.le_of_ble_eq_true rfl) (Nat.le_of_ble_eq_true rfl) ?_
  exact W.iret (v := (-1)) hx hb hr (fun t ht hW => ⟨⟨(-1), (), rfl, rfl, by rw [ht]; exact hP9, va_K.moved hW.alike hK9, hD9⟩, hS.F ht⟩) hS.2.2 dX7_wordAmong_105

set_option maxHeartbeats 4000000 in
set_option maxRecDepth 100000 in
/-- c_Rd_word_1 -/
theorem c_Rd_word_1 (l : Launch) (dC : Nat → ClassId) (dI : Nat → Nat → Nat) (sz : Nat) (kA vA : Nat → Nat) (h0 : Nat) (tx : Nat) : Met l yX7_wordAmong (.code yX7_wordAmong cX7_wordAmong 7 (some .int) :: wsA) ({ frames := 4, cells := 0, slots := 0, locals := 85 }) (va_Pc [.ref h0, .ref (kA 1)] (fun U => U.heap.size = sz ∧ va_P (dC, dI) classes [(h0, .inr (7, [.ref tx, .int 0, .int 0, .int 0]))] U.heap ∧ va_K (dC, dI) classes [] U ∧ va_D (fun _ => True) [(h0, .inr (7, [.ref tx, .int 0, .int 0, .int 0]))] ∧ xE U ∧ xT kA vA (va_A [(h0, .inr (7, [.ref tx, .int 0, .int 0, .int 0]))] sz) U U.heap)) (va_Qi (fun (r : Int32) (_ : Unit) => r = (-1)) (fun _ t => va_P (dC, dI) classes [(h0, .inr (7, [.ref tx, .int 0, .int 0, .int 0]))] t.heap ∧ va_K (dC, dI) classes [] t ∧ va_D (va_A [(h0, .inr (7, [.ref tx, .int 0, .int 0, .int 0]))] sz) [(h0, .inr (7, [.ref tx, .int 0, .int 0, .int 0]))]) (va_A [(h0, .inr (7, [.ref tx, .int 0, .int 0, .int 0]))] sz)) 0 0 (va_A [(h0, .inr (7, [.ref tx, .int 0, .int 0, .int 0]))] sz) := by
  refine Met.ofW (cc := cX7_wordAmong) (maxL := 7) (ret := (some .int)) (by decide) rfl ?_
  intro p e s m args below meth c s₁ B hml hv
  obtain ⟨rfl, hsz, hP, hK, hD0, hE, hT⟩ := hv
  have hx := B.exec
  have hb := B.bytes
  have hr := B.returns
  have hts := atoms_spec (ws := .code yX7_wordAmong cX7_wordAmong 7 (some .int) :: wsA) B.pre
  have hq : ∀ w ∈ wsA, w.before _ s = true := fun w h => hts w (List.mem_cons_of_mem _ h)
  have hown : s.vm.findClass RX7 = some m.cls := findClass_of_methodNamed B.named
  have hlocks := B.notSynchronized
  subst hsz
  have hD := hD0.self (sz := s.heap.size)
  generalize hAe : va_A [(h0, .inr (7, [.ref tx, .int 0, .int 0, .int 0]))] s.heap.size = A at hD hT ⊢
  have hA : ∀ q : Nat, s.heap.size ≤ q → A q := fun q h => by rw [← hAe]; exact Or.inr h
  have hS : va_S A s.heap s.heap [] := va_S.rf
  have hl := lv_entry ([.ref h0, .ref (kA 1)]) (n := 7) (Nat.le_of_ble_eq_true rfl)
  rw [lg_entry_eq]
  generalize (lg_sl ([.ref h0, .ref (kA 1)]) ++ List.replicate (7 - (lg_sl ([.ref h0, .ref (kA 1)])).length) Slot.unset).toArray = ls at hl ⊢
  have hl : lv_has ls 7 [(0, .ref h0), (1, .ref (kA 1))] := hl
  refine lv_iconst (v := 0) hx hb dX7_wordAmong_0 (by decide) ?_
  refine lv_istore_n (lv' := [(2, .int 0), (0, .ref h0), (1, .ref (kA 1))]) hx hb dX7_wordAmong_1 rfl hl (by decide) rfl (fun ls hl => ?_)
  refine lv_iconst (v := 0) hx hb dX7_wordAmong_2 (by decide) ?_
  refine lv_istore_n (lv' := [(3, .int 0), (2, .int 0), (0, .ref h0), (1, .ref (kA 1))]) hx hb dX7_wordAmong_3 rfl hl (by decide) rfl (fun ls hl => ?_)
  refine lv_iconst (v := 1) hx hb dX7_wordAmong_4 (by decide) ?_
  refine lv_istore (lv' := [(4, .int 1), (3, .int 0), (2, .int 0), (0, .ref h0), (1, .ref (kA 1))]) hx hb dX7_wordAmong_5 hl (by decide) rfl (fun ls hl => ?_)
  refine lv_iconst (v := 0) hx hb dX7_wordAmong_7 (by decide) ?_
  refine lv_istore (lv' := [(5, .int 0), (4, .int 1), (3, .int 0), (2, .int 0), (0, .ref h0), (1, .ref (kA 1))]) hx hb dX7_wordAmong_8 hl (by decide) rfl (fun ls hl => ?_)
  refine lv_iload hx hb dX7_wordAmong_10 (lv_at hl 0 rfl) ?_
  refine lv_aload_n hx hb dX7_wordAmong_12 rfl (lv_at hl 5 rfl) ?_
  have hPc := hP.sub (ws' := []) [] rfl
  have hDc := hD.sub (ws' := []) [] (by decide) rfl
  have hKc := hK.sub (tys' := []) [] rfl
  have hFc := va_free (wc := []) hD hS hA [] rfl
  refine va_calli (va_runV (As := []) (rest := [.int 0]) ⟨hx, hb, hml, hown, hq⟩ (c_J_length_1 l dC dI _ kA vA  ) (cwV 0 hq (gV qw_551 qw_552 qw_553 qw_133 qw_554) rfl rfl rfl (by decide +kernel) ⟨Nat.le_of_ble_eq_true rfl, Nat.le_of_ble_eq_true rfl⟩) ⟨fun a U g mk q => by obtain ⟨q0, q1, qP, qK, qD, qE, qT⟩ := q; exact ⟨q0, q1, qP, va_K.moved (u := U) (U := U.calling g mk a) (Vm.Alike.refl U.vm) qK, qD, xE.same rfl qE, xT.same rfl qT⟩, xT_recv hT hS (i := 1) (by decide), fun U hU hW => ⟨rfl, by rw [hU], by rw [hU]; exact hPc, va_K.moved hW.alike hKc, hDc.weaken (fun _ _ _ _ => trivial), xE.warm hW hE, by rw [hU]; exact xT.call hW hT hS hFc⟩⟩ rfl rfl hl.1 rfl (lv_room (Nat.le_of_ble_eq_true rfl)) dX7_wordAmong_13 ⟨Nat.le_of_ble_eq_true rfl, Nat.le_of_ble_eq_true rfl⟩) hS (fun q _ h => hFc q h) hFc (fun r_1 u t H1 locs ht hvm hw hB hz1 hk1 hS => ?_)
  obtain ⟨hP1, hK1, hD1⟩ := hB
  rw [ht] at hP1
  have hK1 := va_K.moved hvm.symm hK1
  obtain ⟨hP, hD⟩ := va_join (wr := [(h0, .inr (7, [.ref tx, .int 0, .int 0, .int 0]))]) (w1 := []) hP hD [] [0] rfl rfl (by decide) (by decide) hk1 hFc hP1 hD1
  generalize H1 = H at hP hS ⊢
  have hP : va_P (dC, dI) classes [(h0, .inr (7, [.ref tx, .int 0, .int 0, .int 0]))] H := hP
  have hD : va_D A [(h0, .inr (7, [.ref tx, .int 0, .int 0, .int 0]))] := hD
  obtain rfl : r_1 = 4 := hw
  refine lv_icmp_ge (tgt := 104) hx hb dX7_wordAmong_16 (by decide) (fun c9 => absurd c9 (by decide)) (fun _ => ?_)
  refine lv_aload_n hx hb dX7_wordAmong_19 rfl (lv_at hl 5 rfl) ?_
  refine lv_iload hx hb dX7_wordAmong_20 (lv_at hl 0 rfl) ?_
  have hPc := hP.sub (ws' := []) [] rfl
  have hDc := hD.sub (ws' := []) [] (by decide) rfl
  have hKc := hK.sub (tys' := []) [] rfl
  have hFc := va_free (wc := []) hD hS hA [] rfl
  refine va_calli (va_runV (As := [.int 0]) (rest := []) ⟨hx, hb, hml, hown, hq⟩ (c_J_charAt_1 l dC dI _ kA vA 0 (by decide) (by decide)) (cwV 1 hq (gV qw_561 qw_562 qw_563 qw_133 qw_564) rfl rfl rfl (by decide +kernel) ⟨Nat.le_of_ble_eq_true rfl, Nat.le_of_ble_eq_true rfl⟩) ⟨fun a U g mk q => by obtain ⟨q0, q1, qP, qK, qD, qE, qT⟩ := q; exact ⟨q0, q1, qP, va_K.moved (u := U) (U := U.calling g mk a) (Vm.Alike.refl U.vm) qK, qD, xE.same rfl qE, xT.same rfl qT⟩, xT_recv hT hS (i := 1) (by decide), fun U hU hW => ⟨rfl, by rw [hU], by rw [hU]; exact hPc, va_K.moved hW.alike hKc, hDc.weaken (fun _ _ _ _ => trivial), xE.warm hW hE, by rw [hU]; exact xT.call hW hT hS hFc⟩⟩ rfl rfl hl.1 rfl (lv_room (Nat.le_of_ble_eq_true rfl)) dX7_wordAmong_22 ⟨Nat.le_of_ble_eq_true rfl, Nat.le_of_ble_eq_true rfl⟩) hS (fun q _ h => hFc q h) hFc (fun r_2 u t H1 locs ht hvm hw hB hz1 hk1 hS => ?_)
  obtain ⟨hP1, hK1, hD1⟩ := hB
  rw [ht] at hP1
  have hK1 := va_K.moved hvm.symm hK1
  obtain ⟨hP, hD⟩ := va_join (wr := [(h0, .inr (7, [.ref tx, .int 0, .int 0, .int 0]))]) (w1 := []) hP hD [] [0] rfl rfl (by decide) (by decide) hk1 hFc hP1 hD1
  generalize H1 = H at hP hS ⊢
  have hP : va_P (dC, dI) classes [(h0, .inr (7, [.ref tx, .int 0, .int 0, .int 0]))] H := hP
  have hD : va_D A [(h0, .inr (7, [.ref tx, .int 0, .int 0, .int 0]))] := hD
  obtain rfl : r_2 = 101 := hw.trans (by decide)
  refine lv_istore (lv' := [(6, .int 101), (5, .int 0), (4, .int 1), (3, .int 0), (2, .int 0), (0, .ref h0), (1, .ref (kA 1))]) hx hb dX7_wordAmong_25 hl (by decide) rfl (fun ls hl => ?_)
  refine lv_iload hx hb dX7_wordAmong_27 (lv_at hl 0 rfl) ?_
  refine lv_bipush (v := 32) hx hb dX7_wordAmong_29 (by decide) ?_
  refine lv_icmp_eq (tgt := 67) hx hb dX7_wordAmong_31 (by decide) (fun c9 => absurd c9 (by decide)) (fun _ => ?_)
  refine lv_iload hx hb dX7_wordAmong_34 (lv_at hl 2 rfl) ?_
  refine lv_if_eq (tgt := 58) hx hb dX7_wordAmong_36 (by decide) (fun c9 => absurd c9 (by decide)) (fun _ => ?_)
  refine lv_aload_n hx hb dX7_wordAmong_39 rfl (lv_at hl 5 rfl) ?_
  refine lv_aload_n hx hb dX7_wordAmong_40 rfl (lv_at hl 5 rfl) ?_
  refine va_get (D := (dC, dI)) (ci := 7) (v := .int 0) (C := RX7) (T := TX7) (N := 4) hx hb hq inX7 hown hK hP 0 rfl rfl 2 (by decide) (hq _ qw_161) (fun _ h9 => h9) rfl dX7_wordAmong_41 ?_
  refine lv_iload_n hx hb dX7_wordAmong_44 rfl (lv_at hl 3 rfl) ?_
  refine lv_iadd hx hb dX7_wordAmong_45 ?_
  refine lv_topi (fun y_3 ey_3 => ?_)
  obtain rfl : y_3 = 0 := ey_3.trans (by decide)
  have hPc := hP.sub (ws' := [(h0, .inr (7, [.ref tx, .int 0, .int 0, .int 0]))]) [0] rfl
  have hDc := hD.sub (ws' := [(h0, .inr (7, [.ref tx, .int 0, .int 0, .int 0]))]) [0] (by decide) rfl
  have hKc := hK.sub (tys' := []) [] rfl
  have hFc := va_free (wc := [(h0, .inr (7, [.ref tx, .int 0, .int 0, .int 0]))]) hD hS hA [0] rfl
  refine va_calli (va_runV (As := [.int 0]) (rest := []) ⟨hx, hb, hml, hown, hq⟩ (c_Rd_byteAt l dC dI _ h0 tx 0 0 ) (cwV 1 hq (gV qw_542 qw_544 qw_1 qw_121 qw_545) rfl rfl rfl (by decide +kernel) ⟨Nat.le_of_ble_eq_true rfl, Nat.le_of_ble_eq_true rfl⟩) ⟨fun a U g mk q => by obtain ⟨q0, q1, qP, qK, qD, qE⟩ := q; exact ⟨q0, q1, qP, va_K.moved (u := U) (U := U.calling g mk a) (Vm.Alike.refl U.vm) qK, qD, xE.same rfl qE⟩, va_recv hKc hPc (ci := 7) (q0 := 0) rfl rfl, fun U hU hW => ⟨rfl, by rw [hU], by rw [hU]; exact hPc, va_K.moved hW.alike hKc, hDc.weaken (fun _ _ _ _ => trivial), xE.warm hW hE⟩⟩ rfl rfl hl.1 rfl (lv_room (Nat.le_of_ble_eq_true rfl)) dX7_wordAmong_46 ⟨Nat.le_of_ble_eq_true rfl, Nat.le_of_ble_eq_true rfl⟩) hS (fun q _ h => hFc q h) hFc (fun r_4 u t H1 locs ht hvm hw hB hz1 hk1 hS => ?_)
  obtain ⟨hP1, hK1, hD1⟩ := hB
  rw [ht] at hP1
  have hK1 := va_K.moved hvm.symm hK1
  obtain ⟨hP, hD⟩ := va_join (wr := []) (w1 := [(h0, .inr (7, [.ref tx, .int 0, .int 0, .int 0]))]) hP hD [0] [] rfl rfl (by decide) (by decide) hk1 hFc hP1 hD1
  generalize H1 = H at hP hS ⊢
  have hP : va_P (dC, dI) classes [(h0, .inr (7, [.ref tx, .int 0, .int 0, .int 0]))] H := hP
  have hD : va_D A [(h0, .inr (7, [.ref tx, .int 0, .int 0, .int 0]))] := hD
  obtain rfl : r_4 = (-1) := hw
  refine lv_iload hx hb dX7_wordAmong_49 (lv_at hl 0 rfl) ?_
  refine lv_icmp_ne (tgt := 58) hx hb dX7_wordAmong_51 (by decide) (fun _ => ?_) (fun c9 => absurd c9 (by decide))
  refine lv_iconst (v := 0) hx hb dX7_wordAmong_58 (by decide) ?_
  refine lv_istore (lv' := [(4, .int 0), (6, .int 101), (5, .int 0), (3, .int 0), (2, .int 0), (0, .ref h0), (1, .ref (kA 1))]) hx hb dX7_wordAmong_59 hl (by decide) rfl (fun ls hl => ?_)
  refine lv_iinc (v := 1) (lv' := [(3, .int 1), (4, .int 0), (6, .int 101), (5, .int 0), (2, .int 0), (0, .ref h0), (1, .ref (kA 1))]) hx hb dX7_wordAmong_61 hl (k := 3) rfl (by decide) (by decide) rfl (fun ls hl => ?_)
  refine lv_goto (tgt := 98) hx hb dX7_wordAmong_64 (by decide) ?_
  refine lv_iinc (v := 1) (lv' := [(5, .int 1), (3, .int 1), (4, .int 0), (6, .int 101), (2, .int 0), (0, .ref h0), (1, .ref (kA 1))]) hx hb dX7_wordAmong_98 hl (k := 3) rfl (by decide) (by decide) rfl (fun ls hl => ?_)
  refine lv_goto (tgt := 10) hx hb dX7_wordAmong_101 (by decide) ?_
  refine lv_iload hx hb dX7_wordAmong_10 (lv_at hl 0 rfl) ?_
  refine lv_aload_n hx hb dX7_wordAmong_12 rfl (lv_at hl 6 rfl) ?_
  have hPc := hP.sub (ws' := []) [] rfl
  have hDc := hD.sub (ws' := []) [] (by decide) rfl
  have hKc := hK.sub (tys' := []) [] rfl
  have hFc := va_free (wc := []) hD hS hA [] rfl
  refine va_calli (va_runV (As := []) (rest := [.int 1]) ⟨hx, hb, hml, hown, hq⟩ (c_J_length_1 l dC dI _ kA vA  ) (cwV 0 hq (gV qw_551 qw_552 qw_553 qw_133 qw_554) rfl rfl rfl (by decide +kernel) ⟨Nat.le_of_ble_eq_true rfl, Nat.le_of_ble_eq_true rfl⟩) ⟨fun a U g mk q => by obtain ⟨q0, q1, qP, qK, qD, qE, qT⟩ := q; exact ⟨q0, q1, qP, va_K.moved (u := U) (U := U.calling g mk a) (Vm.Alike.refl U.vm) qK, qD, xE.same rfl qE, xT.same rfl qT⟩, xT_recv hT hS (i := 1) (by decide), fun U hU hW => ⟨rfl, by rw [hU], by rw [hU]; exact hPc, va_K.moved hW.alike hKc, hDc.weaken (fun _ _ _ _ => trivial), xE.warm hW hE, by rw [hU]; exact xT.call hW hT hS hFc⟩⟩ rfl rfl hl.1 rfl (lv_room (Nat.le_of_ble_eq_true rfl)) dX7_wordAmong_13 ⟨Nat.le_of_ble_eq_true rfl, Nat.le_of_ble_eq_true rfl⟩) hS (fun q _ h => hFc q h) hFc (fun r_5 u t H1 locs ht hvm hw hB hz1 hk1 hS => ?_)
  obtain ⟨hP1, hK1, hD1⟩ := hB
  rw [ht] at hP1
  have hK1 := va_K.moved hvm.symm hK1
  obtain ⟨hP, hD⟩ := va_join (wr := [(h0, .inr (7, [.ref tx, .int 0, .int 0, .int 0]))]) (w1 := []) hP hD [] [0] rfl rfl (by decide) (by decide) hk1 hFc hP1 hD1
  generalize H1 = H at hP hS ⊢
  have hP : va_P (dC, dI) classes [(h0, .inr (7, [.ref tx, .int 0, .int 0, .int 0]))] H := hP
  have hD : va_D A [(h0, .inr (7, [.ref tx, .int 0, .int 0, .int 0]))] := hD
  obtain rfl : r_5 = 4 := hw
  refine lv_icmp_ge (tgt := 104) hx hb dX7_wordAmong_16 (by decide) (fun c9 => absurd c9 (by decide)) (fun _ => ?_)
  refine lv_aload_n hx hb dX7_wordAmong_19 rfl (lv_at hl 6 rfl) ?_
  refine lv_iload hx hb dX7_wordAmong_20 (lv_at hl 0 rfl) ?_
  have hPc := hP.sub (ws' := []) [] rfl
  have hDc := hD.sub (ws' := []) [] (by decide) rfl
  have hKc := hK.sub (tys' := []) [] rfl
  have hFc := va_free (wc := []) hD hS hA [] rfl
  refine va_calli (va_runV (As := [.int 1]) (rest := []) ⟨hx, hb, hml, hown, hq⟩ (c_J_charAt_1 l dC dI _ kA vA 1 (by decide) (by decide)) (cwV 1 hq (gV qw_561 qw_562 qw_563 qw_133 qw_564) rfl rfl rfl (by decide +kernel) ⟨Nat.le_of_ble_eq_true rfl, Nat.le_of_ble_eq_true rfl⟩) ⟨fun a U g mk q => by obtain ⟨q0, q1, qP, qK, qD, qE, qT⟩ := q; exact ⟨q0, q1, qP, va_K.moved (u := U) (U := U.calling g mk a) (Vm.Alike.refl U.vm) qK, qD, xE.same rfl qE, xT.same rfl qT⟩, xT_recv hT hS (i := 1) (by decide), fun U hU hW => ⟨rfl, by rw [hU], by rw [hU]; exact hPc, va_K.moved hW.alike hKc, hDc.weaken (fun _ _ _ _ => trivial), xE.warm hW hE, by rw [hU]; exact xT.call hW hT hS hFc⟩⟩ rfl rfl hl.1 rfl (lv_room (Nat.le_of_ble_eq_true rfl)) dX7_wordAmong_22 ⟨Nat.le_of_ble_eq_true rfl, Nat.le_of_ble_eq_true rfl⟩) hS (fun q _ h => hFc q h) hFc (fun r_6 u t H1 locs ht hvm hw hB hz1 hk1 hS => ?_)
  obtain ⟨hP1, hK1, hD1⟩ := hB
  rw [ht] at hP1
  have hK1 := va_K.moved hvm.symm hK1
  obtain ⟨hP, hD⟩ := va_join (wr := [(h0, .inr (7, [.ref tx, .int 0, .int 0, .int 0]))]) (w1 := []) hP hD [] [0] rfl rfl (by decide) (by decide) hk1 hFc hP1 hD1
  generalize H1 = H at hP hS ⊢
  have hP : va_P (dC, dI) classes [(h0, .inr (7, [.ref tx, .int 0, .int 0, .int 0]))] H := hP
  have hD : va_D A [(h0, .inr (7, [.ref tx, .int 0, .int 0, .int 0]))] := hD
  obtain rfl : r_6 = 97 := hw.trans (by decide)
  refine lv_istore (lv' := [(6, .int 97), (5, .int 1), (3, .int 1), (4, .int 0), (2, .int 0), (0, .ref h0), (1, .ref (kA 1))]) hx hb dX7_wordAmong_25 hl (by decide) rfl (fun ls hl => ?_)
  refine lv_iload hx hb dX7_wordAmong_27 (lv_at hl 0 rfl) ?_
  refine lv_bipush (v := 32) hx hb dX7_wordAmong_29 (by decide) ?_
  refine lv_icmp_eq (tgt := 67) hx hb dX7_wordAmong_31 (by decide) (fun c9 => absurd c9 (by decide)) (fun _ => ?_)
  refine lv_iload hx hb dX7_wordAmong_34 (lv_at hl 3 rfl) ?_
  refine lv_if_eq (tgt := 58) hx hb dX7_wordAmong_36 (by decide) (fun _ => ?_) (fun c9 => absurd c9 (by decide))
  refine lv_iconst (v := 0) hx hb dX7_wordAmong_58 (by decide) ?_
  refine lv_istore (lv' := [(4, .int 0), (6, .int 97), (5, .int 1), (3, .int 1), (2, .int 0), (0, .ref h0), (1, .ref (kA 1))]) hx hb dX7_wordAmong_59 hl (by decide) rfl (fun ls hl => ?_)
  refine lv_iinc (v := 2) (lv' := [(3, .int 2), (4, .int 0), (6, .int 97), (5, .int 1), (2, .int 0), (0, .ref h0), (1, .ref (kA 1))]) hx hb dX7_wordAmong_61 hl (k := 3) rfl (by decide) (by decide) rfl (fun ls hl => ?_)
  refine lv_goto (tgt := 98) hx hb dX7_wordAmong_64 (by decide) ?_
  refine lv_iinc (v := 2) (lv' := [(5, .int 2), (3, .int 2), (4, .int 0), (6, .int 97), (2, .int 0), (0, .ref h0), (1, .ref (kA 1))]) hx hb dX7_wordAmong_98 hl (k := 3) rfl (by decide) (by decide) rfl (fun ls hl => ?_)
  refine lv_goto (tgt := 10) hx hb dX7_wordAmong_101 (by decide) ?_
  refine lv_iload hx hb dX7_wordAmong_10 (lv_at hl 0 rfl) ?_
  refine lv_aload_n hx hb dX7_wordAmong_12 rfl (lv_at hl 6 rfl) ?_
  have hPc := hP.sub (ws' := []) [] rfl
  have hDc := hD.sub (ws' := []) [] (by decide) rfl
  have hKc := hK.sub (tys' := []) [] rfl
  have hFc := va_free (wc := []) hD hS hA [] rfl
  refine va_calli (va_runV (As := []) (rest := [.int 2]) ⟨hx, hb, hml, hown, hq⟩ (c_J_length_1 l dC dI _ kA vA  ) (cwV 0 hq (gV qw_551 qw_552 qw_553 qw_133 qw_554) rfl rfl rfl (by decide +kernel) ⟨Nat.le_of_ble_eq_true rfl, Nat.le_of_ble_eq_true rfl⟩) ⟨fun a U g mk q => by obtain ⟨q0, q1, qP, qK, qD, qE, qT⟩ := q; exact ⟨q0, q1, qP, va_K.moved (u := U) (U := U.calling g mk a) (Vm.Alike.refl U.vm) qK, qD, xE.same rfl qE, xT.same rfl qT⟩, xT_recv hT hS (i := 1) (by decide), fun U hU hW => ⟨rfl, by rw [hU], by rw [hU]; exact hPc, va_K.moved hW.alike hKc, hDc.weaken (fun _ _ _ _ => trivial), xE.warm hW hE, by rw [hU]; exact xT.call hW hT hS hFc⟩⟩ rfl rfl hl.1 rfl (lv_room (Nat.le_of_ble_eq_true rfl)) dX7_wordAmong_13 ⟨Nat.le_of_ble_eq_true rfl, Nat.le_of_ble_eq_true rfl⟩) hS (fun q _ h => hFc q h) hFc (fun r_7 u t H1 locs ht hvm hw hB hz1 hk1 hS => ?_)
  obtain ⟨hP1, hK1, hD1⟩ := hB
  rw [ht] at hP1
  have hK1 := va_K.moved hvm.symm hK1
  obtain ⟨hP, hD⟩ := va_join (wr := [(h0, .inr (7, [.ref tx, .int 0, .int 0, .int 0]))]) (w1 := []) hP hD [] [0] rfl rfl (by decide) (by decide) hk1 hFc hP1 hD1
  generalize H1 = H at hP hS ⊢
  have hP : va_P (dC, dI) classes [(h0, .inr (7, [.ref tx, .int 0, .int 0, .int 0]))] H := hP
  have hD : va_D A [(h0, .inr (7, [.ref tx, .int 0, .int 0, .int 0]))] := hD
  obtain rfl : r_7 = 4 := hw
  refine lv_icmp_ge (tgt := 104) hx hb dX7_wordAmong_16 (by decide) (fun c9 => absurd c9 (by decide)) (fun _ => ?_)
  refine lv_aload_n hx hb dX7_wordAmong_19 rfl (lv_at hl 6 rfl) ?_
  refine lv_iload hx hb dX7_wordAmong_20 (lv_at hl 0 rfl) ?_
  have hPc := hP.sub (ws' := []) [] rfl
  have hDc := hD.sub (ws' := []) [] (by decide) rfl
  have hKc := hK.sub (tys' := []) [] rfl
  have hFc := va_free (wc := []) hD hS hA [] rfl
  refine va_calli (va_runV (As := [.int 2]) (rest := []) ⟨hx, hb, hml, hown, hq⟩ (c_J_charAt_1 l dC dI _ kA vA 2 (by decide) (by decide)) (cwV 1 hq (gV qw_561 qw_562 qw_563 qw_133 qw_564) rfl rfl rfl (by decide +kernel) ⟨Nat.le_of_ble_eq_true rfl, Nat.le_of_ble_eq_true rfl⟩) ⟨fun a U g mk q => by obtain ⟨q0, q1, qP, qK, qD, qE, qT⟩ := q; exact ⟨q0, q1, qP, va_K.moved (u := U) (U := U.calling g mk a) (Vm.Alike.refl U.vm) qK, qD, xE.same rfl qE, xT.same rfl qT⟩, xT_recv hT hS (i := 1) (by decide), fun U hU hW => ⟨rfl, by rw [hU], by rw [hU]; exact hPc, va_K.moved hW.alike hKc, hDc.weaken (fun _ _ _ _ => trivial), xE.warm hW hE, by rw [hU]; exact xT.call hW hT hS hFc⟩⟩ rfl rfl hl.1 rfl (lv_room (Nat.le_of_ble_eq_true rfl)) dX7_wordAmong_22 ⟨Nat.le_of_ble_eq_true rfl, Nat.le_of_ble_eq_true rfl⟩) hS (fun q _ h => hFc q h) hFc (fun r_8 u t H1 locs ht hvm hw hB hz1 hk1 hS => ?_)
  obtain ⟨hP1, hK1, hD1⟩ := hB
  rw [ht] at hP1
  have hK1 := va_K.moved hvm.symm hK1
  obtain ⟨hP, hD⟩ := va_join (wr := [(h0, .inr (7, [.ref tx, .int 0, .int 0, .int 0]))]) (w1 := []) hP hD [] [0] rfl rfl (by decide) (by decide) hk1 hFc hP1 hD1
  generalize H1 = H at hP hS ⊢
  have hP : va_P (dC, dI) classes [(h0, .inr (7, [.ref tx, .int 0, .int 0, .int 0]))] H := hP
  have hD : va_D A [(h0, .inr (7, [.ref tx, .int 0, .int 0, .int 0]))] := hD
  obtain rfl : r_8 = 116 := hw.trans (by decide)
  refine lv_istore (lv' := [(6, .int 116), (5, .int 2), (3, .int 2), (4, .int 0), (2, .int 0), (0, .ref h0), (1, .ref (kA 1))]) hx hb dX7_wordAmong_25 hl (by decide) rfl (fun ls hl => ?_)
  refine lv_iload hx hb dX7_wordAmong_27 (lv_at hl 0 rfl) ?_
  refine lv_bipush (v := 32) hx hb dX7_wordAmong_29 (by decide) ?_
  refine lv_icmp_eq (tgt := 67) hx hb dX7_wordAmong_31 (by decide) (fun c9 => absurd c9 (by decide)) (fun _ => ?_)
  refine lv_iload hx hb dX7_wordAmong_34 (lv_at hl 3 rfl) ?_
  refine lv_if_eq (tgt := 58) hx hb dX7_wordAmong_36 (by decide) (fun _ => ?_) (fun c9 => absurd c9 (by decide))
  refine lv_iconst (v := 0) hx hb dX7_wordAmong_58 (by decide) ?_
  refine lv_istore (lv' := [(4, .int 0), (6, .int 116), (5, .int 2), (3, .int 2), (2, .int 0), (0, .ref h0), (1, .ref (kA 1))]) hx hb dX7_wordAmong_59 hl (by decide) rfl (fun ls hl => ?_)
  refine lv_iinc (v := 3) (lv' := [(3, .int 3), (4, .int 0), (6, .int 116), (5, .int 2), (2, .int 0), (0, .ref h0), (1, .ref (kA 1))]) hx hb dX7_wordAmong_61 hl (k := 3) rfl (by decide) (by decide) rfl (fun ls hl => ?_)
  refine lv_goto (tgt := 98) hx hb dX7_wordAmong_64 (by decide) ?_
  refine lv_iinc (v := 3) (lv' := [(5, .int 3), (3, .int 3), (4, .int 0), (6, .int 116), (2, .int 0), (0, .ref h0), (1, .ref (kA 1))]) hx hb dX7_wordAmong_98 hl (k := 3) rfl (by decide) (by decide) rfl (fun ls hl => ?_)
  refine lv_goto (tgt := 10) hx hb dX7_wordAmong_101 (by decide) ?_
  refine lv_iload hx hb dX7_wordAmong_10 (lv_at hl 0 rfl) ?_
  refine lv_aload_n hx hb dX7_wordAmong_12 rfl (lv_at hl 6 rfl) ?_
  have hPc := hP.sub (ws' := []) [] rfl
  have hDc := hD.sub (ws' := []) [] (by decide) rfl
  have hKc := hK.sub (tys' := []) [] rfl
  have hFc := va_free (wc := []) hD hS hA [] rfl
  refine va_calli (va_runV (As := []) (rest := [.int 3]) ⟨hx, hb, hml, hown, hq⟩ (c_J_length_1 l dC dI _ kA vA  ) (cwV 0 hq (gV qw_551 qw_552 qw_553 qw_133 qw_554) rfl rfl rfl (by decide +kernel) ⟨Nat.le_of_ble_eq_true rfl, Nat.le_of_ble_eq_true rfl⟩) ⟨fun a U g mk q => by obtain ⟨q0, q1, qP, qK, qD, qE, qT⟩ := q; exact ⟨q0, q1, qP, va_K.moved (u := U) (U := U.calling g mk a) (Vm.Alike.refl U.vm) qK, qD, xE.same rfl qE, xT.same rfl qT⟩, xT_recv hT hS (i := 1) (by decide), fun U hU hW => ⟨rfl, by rw [hU], by rw [hU]; exact hPc, va_K.moved hW.alike hKc, hDc.weaken (fun _ _ _ _ => trivial), xE.warm hW hE, by rw [hU]; exact xT.call hW hT hS hFc⟩⟩ rfl rfl hl.1 rfl (lv_room (Nat.le_of_ble_eq_true rfl)) dX7_wordAmong_13 ⟨Nat.le_of_ble_eq_true rfl, Nat.le_of_ble_eq_true rfl⟩) hS (fun q _ h => hFc q h) hFc (fun r_9 u t H1 locs ht hvm hw hB hz1 hk1 hS => ?_)
  obtain ⟨hP1, hK1, hD1⟩ := hB
  rw [ht] at hP1
  have hK1 := va_K.moved hvm.symm hK1
  obtain ⟨hP, hD⟩ := va_join (wr := [(h0, .inr (7, [.ref tx, .int 0, .int 0, .int 0]))]) (w1 := []) hP hD [] [0] rfl rfl (by decide) (by decide) hk1 hFc hP1 hD1
  generalize H1 = H at hP hS ⊢
  have hP : va_P (dC, dI) classes [(h0, .inr (7, [.ref tx, .int 0, .int 0, .int 0]))] H := hP
  have hD : va_D A [(h0, .inr (7, [.ref tx, .int 0, .int 0, .int 0]))] := hD
  obtain rfl : r_9 = 4 := hw
  refine lv_icmp_ge (tgt := 104) hx hb dX7_wordAmong_16 (by decide) (fun c9 => absurd c9 (by decide)) (fun _ => ?_)
  refine lv_aload_n hx hb dX7_wordAmong_19 rfl (lv_at hl 6 rfl) ?_
  refine lv_iload hx hb dX7_wordAmong_20 (lv_at hl 0 rfl) ?_
  have hPc := hP.sub (ws' := []) [] rfl
  have hDc := hD.sub (ws' := []) [] (by decide) rfl
  have hKc := hK.sub (tys' := []) [] rfl
  have hFc := va_free (wc := []) hD hS hA [] rfl
  refine va_calli (va_runV (As := [.int 3]) (rest := []) ⟨hx, hb, hml, hown, hq⟩ (c_J_charAt_1 l dC dI _ kA vA 3 (by decide) (by decide)) (cwV 1 hq (gV qw_561 qw_562 qw_563 qw_133 qw_564) rfl rfl rfl (by decide +kernel) ⟨Nat.le_of_ble_eq_true rfl, Nat.le_of_ble_eq_true rfl⟩) ⟨fun a U g mk q => by obtain ⟨q0, q1, qP, qK, qD, qE, qT⟩ := q; exact ⟨q0, q1, qP, va_K.moved (u := U) (U := U.calling g mk a) (Vm.Alike.refl U.vm) qK, qD, xE.same rfl qE, xT.same rfl qT⟩, xT_recv hT hS (i := 1) (by decide), fun U hU hW => ⟨rfl, by rw [hU], by rw [hU]; exact hPc, va_K.moved hW.alike hKc, hDc.weaken (fun _ _ _ _ => trivial), xE.warm hW hE, by rw [hU]; exact xT.call hW hT hS hFc⟩⟩ rfl rfl hl.1 rfl (lv_room (Nat.le_of_ble_eq_true rfl)) dX7_wordAmong_22 ⟨Nat.le_of_ble_eq_true rfl, Nat.le_of_ble_eq_true rfl⟩) hS (fun q _ h => hFc q h) hFc (fun r_10 u t H1 locs ht hvm hw hB hz1 hk1 hS => ?_)
  obtain ⟨hP1, hK1, hD1⟩ := hB
  rw [ht] at hP1
  have hK1 := va_K.moved hvm.symm hK1
  obtain ⟨hP, hD⟩ := va_join (wr := [(h0, .inr (7, [.ref tx, .int 0, .int 0, .int 0]))]) (w1 := []) hP hD [] [0] rfl rfl (by decide) (by decide) hk1 hFc hP1 hD1
  generalize H1 = H at hP hS ⊢
  have hP : va_P (dC, dI) classes [(h0, .inr (7, [.ref tx, .int 0, .int 0, .int 0]))] H := hP
  have hD : va_D A [(h0, .inr (7, [.ref tx, .int 0, .int 0, .int 0]))] := hD
  obtain rfl : r_10 = 32 := hw.trans (by decide)
  refine lv_istore (lv' := [(6, .int 32), (5, .int 3), (3, .int 3), (4, .int 0), (2, .int 0), (0, .ref h0), (1, .ref (kA 1))]) hx hb dX7_wordAmong_25 hl (by decide) rfl (fun ls hl => ?_)
  refine lv_iload hx hb dX7_wordAmong_27 (lv_at hl 0 rfl) ?_
  refine lv_bipush (v := 32) hx hb dX7_wordAmong_29 (by decide) ?_
  refine lv_icmp_eq (tgt := 67) hx hb dX7_wordAmong_31 (by decide) (fun _ => ?_) (fun c9 => absurd c9 (by decide))
  refine lv_iload hx hb dX7_wordAmong_67 (lv_at hl 3 rfl) ?_
  refine lv_if_eq (tgt := 90) hx hb dX7_wordAmong_69 (by decide) (fun _ => ?_) (fun c9 => absurd c9 (by decide))
  refine lv_iinc (v := 1) (lv' := [(2, .int 1), (6, .int 32), (5, .int 3), (3, .int 3), (4, .int 0), (0, .ref h0), (1, .ref (kA 1))]) hx hb dX7_wordAmong_90 hl (k := 4) rfl (by decide) (by decide) rfl (fun ls hl => ?_)
  refine lv_iconst (v := 0) hx hb dX7_wordAmong_93 (by decide) ?_
  refine lv_istore_n (lv' := [(3, .int 0), (2, .int 1), (6, .int 32), (5, .int 3), (4, .int 0), (0, .ref h0), (1, .ref (kA 1))]) hx hb dX7_wordAmong_94 rfl hl (by decide) rfl (fun ls hl => ?_)
  refine lv_iconst (v := 1) hx hb dX7_wordAmong_95 (by decide) ?_
  refine lv_istore (lv' := [(4, .int 1), (3, .int 0), (2, .int 1), (6, .int 32), (5, .int 3), (0, .ref h0), (1, .ref (kA 1))]) hx hb dX7_wordAmong_96 hl (by decide) rfl (fun ls hl => ?_)
  refine lv_iinc (v := 4) (lv' := [(5, .int 4), (4, .int 1), (3, .int 0), (2, .int 1), (6, .int 32), (0, .ref h0), (1, .ref (kA 1))]) hx hb dX7_wordAmong_98 hl (k := 4) rfl (by decide) (by decide) rfl (fun ls hl => ?_)
  refine lv_goto (tgt := 10) hx hb dX7_wordAmong_101 (by decide) ?_
  refine lv_iload hx hb dX7_wordAmong_10 (lv_at hl 0 rfl) ?_
  refine lv_aload_n hx hb dX7_wordAmong_12 rfl (lv_at hl 6 rfl) ?_
  have hPc := hP.sub (ws' := []) [] rfl
  have hDc := hD.sub (ws' := []) [] (by decide) rfl
  have hKc := hK.sub (tys' := []) [] rfl
  have hFc := va_free (wc := []) hD hS hA [] rfl
  refine va_calli (va_runV (As := []) (rest := [.int 4]) ⟨hx, hb, hml, hown, hq⟩ (c_J_length_1 l dC dI _ kA vA  ) (cwV 0 hq (gV qw_551 qw_552 qw_553 qw_133 qw_554) rfl rfl rfl (by decide +kernel) ⟨Nat.le_of_ble_eq_true rfl, Nat.le_of_ble_eq_true rfl⟩) ⟨fun a U g mk q => by obtain ⟨q0, q1, qP, qK, qD, qE, qT⟩ := q; exact ⟨q0, q1, qP, va_K.moved (u := U) (U := U.calling g mk a) (Vm.Alike.refl U.vm) qK, qD, xE.same rfl qE, xT.same rfl qT⟩, xT_recv hT hS (i := 1) (by decide), fun U hU hW => ⟨rfl, by rw [hU], by rw [hU]; exact hPc, va_K.moved hW.alike hKc, hDc.weaken (fun _ _ _ _ => trivial), xE.warm hW hE, by rw [hU]; exact xT.call hW hT hS hFc⟩⟩ rfl rfl hl.1 rfl (lv_room (Nat.le_of_ble_eq_true rfl)) dX7_wordAmong_13 ⟨Nat.le_of_ble_eq_true rfl, Nat.le_of_ble_eq_true rfl⟩) hS (fun q _ h => hFc q h) hFc (fun r_11 u t H1 locs ht hvm hw hB hz1 hk1 hS => ?_)
  obtain ⟨hP1, hK1, hD1⟩ := hB
  rw [ht] at hP1
  have hK1 := va_K.moved hvm.symm hK1
  obtain ⟨hP, hD⟩ := va_join (wr := [(h0, .inr (7, [.ref tx, .int 0, .int 0, .int 0]))]) (w1 := []) hP hD [] [0] rfl rfl (by decide) (by decide) hk1 hFc hP1 hD1
  generalize H1 = H at hP hS ⊢
  have hP : va_P (dC, dI) classes [(h0, .inr (7, [.ref tx, .int 0, .int 0, .int 0]))] H := hP
  have hD : va_D A [(h0, .inr (7, [.ref tx, .int 0, .int 0, .int 0]))] := hD
  obtain rfl : r_11 = 4 := hw
  refine lv_icmp_ge (tgt := 104) hx hb dX7_wordAmong_16 (by decide) (fun _ => ?_) (fun c9 => absurd c9 (by decide))
  refine lv_iconst (v := (-1)) hx hb dX7_wordAmong_104 (by decide) ?_
  have hP9 := hP.sub (ws' := [(h0, .inr (7, [.ref tx, .int 0, .int 0, .int 0]))]) [0] rfl
  have hD9 := hD.sub (ws' := [(h0, .inr (7, [.ref tx, .int 0, .int 0, .int 0]))]) [0] (by decide) rfl
  have hK9 := hK.sub (tys' := []) [] rfl
  refine W.widen (k := 0) (n := 0) (Nat.le_of_ble_eq_true rfl) (Nat.le_of_ble_eq_true rfl) ?_
  exact W.iret (v := (-1)) hx hb hr (fun t ht hW => ⟨⟨(-1), (), rfl, rfl, by rw [ht]; exact hP9, va_K.moved hW.alike hK9, hD9⟩, hS.F ht⟩) hS.2.2 dX7_wordAmong_105
