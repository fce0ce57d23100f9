theorem qw_132 : (.initialized RJ9 : Cond) ∈ wsA := mA (i := 132) (by decide +kernel) rfl
theorem qw_307 : (.fieldLink RX5 24 "SpokenBite$Notes" "kept" "I" : Cond) ∈ wsA := mA (i := 307) (by decide +kernel) rfl
theorem qw_309 : (.fieldLink RX5 9 "SpokenBite$Notes" "when" "[I" : Cond) ∈ wsA := mA (i := 309) (by decide +kernel) rfl
theorem qw_310 : (.fieldLink RX5 15 "SpokenBite$Notes" "who" "[I" : Cond) ∈ wsA := mA (i := 310) (by decide +kernel) rfl
theorem qw_311 : (.fieldLink RX5 18 "SpokenBite$Notes" "secret" "[I" : Cond) ∈ wsA := mA (i := 311) (by decide +kernel) rfl
theorem qw_312 : (.fieldLink RX5 21 "SpokenBite$Notes" "knew" "[I" : Cond) ∈ wsA := mA (i := 312) (by decide +kernel) rfl
theorem qw_976 : (.methodLink RX5 28 yJ9_max_7cf53 : Cond) ∈ wsA := mA (i := 976) (by decide +kernel) rfl
theorem qw_977 : (.static yJ9_max_7cf53 : Cond) ∈ wsA := mA (i := 977) (by decide +kernel) rfl
theorem qw_978 : (.code yJ9_max_7cf53 cJ9_max_7cf53 2 (some .int) : Cond) ∈ wsA := mA (i := 978) (by decide +kernel) rfl
theorem qw_983 : (.methodLink RX5 34 yX3_knownBy : Cond) ∈ wsA := mA (i := 983) (by decide +kernel) rfl
theorem dX5_add_0 : decode cX5_add 0 = .ok (.aload_n 0, 1) := by decide +kernel
theorem dX5_add_1 : decode cX5_add 1 = .ok (.getfield 24, 3) := by decide +kernel
theorem dX5_add_4 : decode cX5_add 4 = .ok (.ifCond .lt 12, 3) := by decide +kernel
theorem dX5_add_7 : decode cX5_add 7 = .ok (.aload_n 0, 1) := by decide +kernel
theorem dX5_add_8 : decode cX5_add 8 = .ok (.getfield 24, 3) := by decide +kernel
theorem dX5_add_11 : decode cX5_add 11 = .ok (.bipush 10, 2) := by decide +kernel
theorem dX5_add_13 : decode cX5_add 13 = .ok (.if_icmp .lt 5, 3) := by decide +kernel
theorem dX5_add_16 : decode cX5_add 16 = .ok (.iconst 0, 1) := by decide +kernel
theorem dX5_add_17 : decode cX5_add 17 = .ok (.ireturn, 1) := by decide +kernel
theorem dX5_add_18 : decode cX5_add 18 = .ok (.aload_n 0, 1) := by decide +kernel
theorem dX5_add_19 : decode cX5_add 19 = .ok (.getfield 9, 3) := by decide +kernel
theorem dX5_add_22 : decode cX5_add 22 = .ok (.aload_n 0, 1) := by decide +kernel
theorem dX5_add_23 : decode cX5_add 23 = .ok (.getfield 24, 3) := by decide +kernel
theorem dX5_add_26 : decode cX5_add 26 = .ok (.iload_n 1, 1) := by decide +kernel
theorem dX5_add_27 : decode cX5_add 27 = .ok (.iastore, 1) := by decide +kernel
theorem dX5_add_28 : decode cX5_add 28 = .ok (.aload_n 0, 1) := by decide +kernel
theorem dX5_add_29 : decode cX5_add 29 = .ok (.getfield 15, 3) := by decide +kernel
theorem dX5_add_32 : decode cX5_add 32 = .ok (.aload_n 0, 1) := by decide +kernel
theorem dX5_add_33 : decode cX5_add 33 = .ok (.getfield 24, 3) := by decide +kernel
theorem dX5_add_36 : decode cX5_add 36 = .ok (.iload_n 2, 1) := by decide +kernel
theorem dX5_add_37 : decode cX5_add 37 = .ok (.iastore, 1) := by decide +kernel
theorem dX5_add_38 : decode cX5_add 38 = .ok (.aload_n 0, 1) := by decide +kernel
theorem dX5_add_39 : decode cX5_add 39 = .ok (.getfield 18, 3) := by decide +kernel
theorem dX5_add_42 : decode cX5_add 42 = .ok (.aload_n 0, 1) := by decide +kernel
theorem dX5_add_43 : decode cX5_add 43 = .ok (.getfield 24, 3) := by decide +kernel
theorem dX5_add_46 : decode cX5_add 46 = .ok (.iload_n 3, 1) := by decide +kernel
theorem dX5_add_47 : decode cX5_add 47 = .ok (.iastore, 1) := by decide +kernel
theorem dX5_add_48 : decode cX5_add 48 = .ok (.aload_n 0, 1) := by decide +kernel
theorem dX5_add_49 : decode cX5_add 49 = .ok (.getfield 21, 3) := by decide +kernel
theorem dX5_add_52 : decode cX5_add 52 = .ok (.aload_n 0, 1) := by decide +kernel
theorem dX5_add_53 : decode cX5_add 53 = .ok (.getfield 24, 3) := by decide +kernel
theorem dX5_add_56 : decode cX5_add 56 = .ok (.iload 4, 2) := by decide +kernel
theorem dX5_add_58 : decode cX5_add 58 = .ok (.iastore, 1) := by decide +kernel
theorem dX5_add_59 : decode cX5_add 59 = .ok (.aload_n 0, 1) := by decide +kernel
theorem dX5_add_60 : decode cX5_add 60 = .ok (.dup, 1) := by decide +kernel
theorem dX5_add_61 : decode cX5_add 61 = .ok (.getfield 24, 3) := by decide +kernel
theorem dX5_add_64 : decode cX5_add 64 = .ok (.iconst 1, 1) := by decide +kernel
theorem dX5_add_65 : decode cX5_add 65 = .ok (.iadd, 1) := by decide +kernel
theorem dX5_add_66 : decode cX5_add 66 = .ok (.putfield 24, 3) := by decide +kernel
theorem dX5_add_69 : decode cX5_add 69 = .ok (.iconst 1, 1) := by decide +kernel
theorem dX5_add_70 : decode cX5_add 70 = .ok (.ireturn, 1) := by decide +kernel
theorem dX5_clear_0 : decode cX5_clear 0 = .ok (.aload_n 0, 1) := by decide +kernel
theorem dX5_clear_1 : decode cX5_clear 1 = .ok (.iconst 0, 1) := by decide +kernel
theorem dX5_clear_2 : decode cX5_clear 2 = .ok (.putfield 24, 3) := by decide +kernel
theorem dX5_clear_5 : decode cX5_clear 5 = .ok (.return_, 1) := by decide +kernel
theorem dX5_hold_0 : decode cX5_hold 0 = .ok (.iconst 0, 1) := by decide +kernel
theorem dX5_hold_1 : decode cX5_hold 1 = .ok (.istore 4, 2) := by decide +kernel
theorem dX5_hold_3 : decode cX5_hold 3 = .ok (.iload 4, 2) := by decide +kernel
theorem dX5_hold_5 : decode cX5_hold 5 = .ok (.aload_n 0, 1) := by decide +kernel
theorem dX5_hold_6 : decode cX5_hold 6 = .ok (.getfield 24, 3) := by decide +kernel
theorem dX5_hold_9 : decode cX5_hold 9 = .ok (.if_icmp .ge 83, 3) := by decide +kernel
theorem dX5_hold_12 : decode cX5_hold 12 = .ok (.iload 4, 2) := by decide +kernel
theorem dX5_hold_14 : decode cX5_hold 14 = .ok (.bipush 10, 2) := by decide +kernel
theorem dX5_hold_16 : decode cX5_hold 16 = .ok (.if_icmp .ge 76, 3) := by decide +kernel
theorem dX5_hold_19 : decode cX5_hold 19 = .ok (.aload_n 0, 1) := by decide +kernel
theorem dX5_hold_20 : decode cX5_hold 20 = .ok (.getfield 9, 3) := by decide +kernel
theorem dX5_hold_23 : decode cX5_hold 23 = .ok (.iload 4, 2) := by decide +kernel
theorem dX5_hold_25 : decode cX5_hold 25 = .ok (.iaload, 1) := by decide +kernel
theorem dX5_hold_26 : decode cX5_hold 26 = .ok (.iload_n 2, 1) := by decide +kernel
theorem dX5_hold_27 : decode cX5_hold 27 = .ok (.if_icmp .lt 18, 3) := by decide +kernel
theorem dX5_hold_30 : decode cX5_hold 30 = .ok (.aload_n 0, 1) := by decide +kernel
theorem dX5_hold_31 : decode cX5_hold 31 = .ok (.getfield 9, 3) := by decide +kernel
theorem dX5_hold_34 : decode cX5_hold 34 = .ok (.iload 4, 2) := by decide +kernel
theorem dX5_hold_36 : decode cX5_hold 36 = .ok (.iaload, 1) := by decide +kernel
theorem dX5_hold_37 : decode cX5_hold 37 = .ok (.iload_n 3, 1) := by decide +kernel
theorem dX5_hold_38 : decode cX5_hold 38 = .ok (.if_icmp .gt 7, 3) := by decide +kernel
theorem dX5_hold_41 : decode cX5_hold 41 = .ok (.iconst 1, 1) := by decide +kernel
theorem dX5_hold_42 : decode cX5_hold 42 = .ok (.goto 4, 3) := by decide +kernel
theorem dX5_hold_45 : decode cX5_hold 45 = .ok (.iconst 0, 1) := by decide +kernel
theorem dX5_hold_46 : decode cX5_hold 46 = .ok (.istore 5, 2) := by decide +kernel
theorem dX5_hold_48 : decode cX5_hold 48 = .ok (.iload 5, 2) := by decide +kernel
theorem dX5_hold_50 : decode cX5_hold 50 = .ok (.ifCond .eq 36, 3) := by decide +kernel
theorem dX5_hold_53 : decode cX5_hold 53 = .ok (.aload_n 1, 1) := by decide +kernel
theorem dX5_hold_54 : decode cX5_hold 54 = .ok (.aload_n 0, 1) := by decide +kernel
theorem dX5_hold_55 : decode cX5_hold 55 = .ok (.getfield 15, 3) := by decide +kernel
theorem dX5_hold_58 : decode cX5_hold 58 = .ok (.iload 4, 2) := by decide +kernel
theorem dX5_hold_60 : decode cX5_hold 60 = .ok (.iaload, 1) := by decide +kernel
theorem dX5_hold_61 : decode cX5_hold 61 = .ok (.invokevirtual 34, 3) := by decide +kernel
theorem dX5_hold_64 : decode cX5_hold 64 = .ok (.aload_n 0, 1) := by decide +kernel
theorem dX5_hold_65 : decode cX5_hold 65 = .ok (.getfield 18, 3) := by decide +kernel
theorem dX5_hold_68 : decode cX5_hold 68 = .ok (.iload 4, 2) := by decide +kernel
theorem dX5_hold_70 : decode cX5_hold 70 = .ok (.iaload, 1) := by decide +kernel
theorem dX5_hold_71 : decode cX5_hold 71 = .ok (.ishr, 1) := by decide +kernel
theorem dX5_hold_72 : decode cX5_hold 72 = .ok (.iconst 1, 1) := by decide +kernel
theorem dX5_hold_73 : decode cX5_hold 73 = .ok (.iand, 1) := by decide +kernel
theorem dX5_hold_74 : decode cX5_hold 74 = .ok (.aload_n 0, 1) := by decide +kernel
theorem dX5_hold_75 : decode cX5_hold 75 = .ok (.getfield 21, 3) := by decide +kernel
theorem dX5_hold_78 : decode cX5_hold 78 = .ok (.iload 4, 2) := by decide +kernel
theorem dX5_hold_80 : decode cX5_hold 80 = .ok (.iaload, 1) := by decide +kernel
theorem dX5_hold_81 : decode cX5_hold 81 = .ok (.if_icmp .eq 5, 3) := by decide +kernel
theorem dX5_hold_84 : decode cX5_hold 84 = .ok (.iconst 0, 1) := by decide +kernel
theorem dX5_hold_85 : decode cX5_hold 85 = .ok (.ireturn, 1) := by decide +kernel
theorem dX5_hold_86 : decode cX5_hold 86 = .ok (.iinc 4 1, 3) := by decide +kernel
theorem dX5_hold_89 : decode cX5_hold 89 = .ok (.goto (-86), 3) := by decide +kernel
theorem dX5_hold_92 : decode cX5_hold 92 = .ok (.iconst 1, 1) := by decide +kernel
theorem dX5_hold_93 : decode cX5_hold 93 = .ok (.ireturn, 1) := by decide +kernel
theorem dX5_last_0 : decode cX5_last 0 = .ok (.iconst 0, 1) := by decide +kernel
theorem dX5_last_1 : decode cX5_last 1 = .ok (.istore_n 1, 1) := by decide +kernel
theorem dX5_last_2 : decode cX5_last 2 = .ok (.iconst 0, 1) := by decide +kernel
theorem dX5_last_3 : decode cX5_last 3 = .ok (.istore_n 2, 1) := by decide +kernel
theorem dX5_last_4 : decode cX5_last 4 = .ok (.iload_n 2, 1) := by decide +kernel
theorem dX5_last_5 : decode cX5_last 5 = .ok (.aload_n 0, 1) := by decide +kernel
theorem dX5_last_6 : decode cX5_last 6 = .ok (.getfield 24, 3) := by decide +kernel
theorem dX5_last_9 : decode cX5_last 9 = .ok (.if_icmp .ge 26, 3) := by decide +kernel
theorem dX5_last_12 : decode cX5_last 12 = .ok (.iload_n 2, 1) := by decide +kernel
theorem dX5_last_13 : decode cX5_last 13 = .ok (.bipush 10, 2) := by decide +kernel
theorem dX5_last_15 : decode cX5_last 15 = .ok (.if_icmp .ge 20, 3) := by decide +kernel
theorem dX5_last_18 : decode cX5_last 18 = .ok (.iload_n 1, 1) := by decide +kernel
theorem dX5_last_19 : decode cX5_last 19 = .ok (.aload_n 0, 1) := by decide +kernel
theorem dX5_last_20 : decode cX5_last 20 = .ok (.getfield 9, 3) := by decide +kernel
theorem dX5_last_23 : decode cX5_last 23 = .ok (.iload_n 2, 1) := by decide +kernel
theorem dX5_last_24 : decode cX5_last 24 = .ok (.iaload, 1) := by decide +kernel
theorem dX5_last_25 : decode cX5_last 25 = .ok (.invokestatic 28, 3) := by decide +kernel
theorem dX5_last_28 : decode cX5_last 28 = .ok (.istore_n 1, 1) := by decide +kernel
theorem dX5_last_29 : decode cX5_last 29 = .ok (.iinc 2 1, 3) := by decide +kernel
theorem dX5_last_32 : decode cX5_last 32 = .ok (.goto (-28), 3) := by decide +kernel
theorem dX5_last_35 : decode cX5_last 35 = .ok (.iload_n 1, 1) := by decide +kernel
theorem dX5_last_36 : decode cX5_last 36 = .ok (.ireturn, 1) := by decide +kernel
theorem dX5_take_0 : decode cX5_take 0 = .ok (.aload_n 0, 1) := by decide +kernel
theorem dX5_take_1 : decode cX5_take 1 = .ok (.aload_n 1, 1) := by decide +kernel
theorem dX5_take_2 : decode cX5_take 2 = .ok (.getfield 24, 3) := by decide +kernel
theorem dX5_take_5 : decode cX5_take 5 = .ok (.putfield 24, 3) := by decide +kernel
theorem dX5_take_8 : decode cX5_take 8 = .ok (.iconst 0, 1) := by decide +kernel
theorem dX5_take_9 : decode cX5_take 9 = .ok (.istore_n 2, 1) := by decide +kernel
theorem dX5_take_10 : decode cX5_take 10 = .ok (.iload_n 2, 1) := by decide +kernel
theorem dX5_take_11 : decode cX5_take 11 = .ok (.bipush 10, 2) := by decide +kernel
theorem dX5_take_13 : decode cX5_take 13 = .ok (.if_icmp .ge 57, 3) := by decide +kernel
theorem dX5_take_16 : decode cX5_take 16 = .ok (.aload_n 0, 1) := by decide +kernel
theorem dX5_take_17 : decode cX5_take 17 = .ok (.getfield 9, 3) := by decide +kernel
theorem dX5_take_20 : decode cX5_take 20 = .ok (.iload_n 2, 1) := by decide +kernel
theorem dX5_take_21 : decode cX5_take 21 = .ok (.aload_n 1, 1) := by decide +kernel
theorem dX5_take_22 : decode cX5_take 22 = .ok (.getfield 9, 3) := by decide +kernel
theorem dX5_take_25 : decode cX5_take 25 = .ok (.iload_n 2, 1) := by decide +kernel
theorem dX5_take_26 : decode cX5_take 26 = .ok (.iaload, 1) := by decide +kernel
theorem dX5_take_27 : decode cX5_take 27 = .ok (.iastore, 1) := by decide +kernel
theorem dX5_take_28 : decode cX5_take 28 = .ok (.aload_n 0, 1) := by decide +kernel
theorem dX5_take_29 : decode cX5_take 29 = .ok (.getfield 15, 3) := by decide +kernel
theorem dX5_take_32 : decode cX5_take 32 = .ok (.iload_n 2, 1) := by decide +kernel
theorem dX5_take_33 : decode cX5_take 33 = .ok (.aload_n 1, 1) := by decide +kernel
theorem dX5_take_34 : decode cX5_take 34 = .ok (.getfield 15, 3) := by decide +kernel
theorem dX5_take_37 : decode cX5_take 37 = .ok (.iload_n 2, 1) := by decide +kernel
theorem dX5_take_38 : decode cX5_take 38 = .ok (.iaload, 1) := by decide +kernel
theorem dX5_take_39 : decode cX5_take 39 = .ok (.iastore, 1) := by decide +kernel
theorem dX5_take_40 : decode cX5_take 40 = .ok (.aload_n 0, 1) := by decide +kernel
theorem dX5_take_41 : decode cX5_take 41 = .ok (.getfield 18, 3) := by decide +kernel
theorem dX5_take_44 : decode cX5_take 44 = .ok (.iload_n 2, 1) := by decide +kernel
theorem dX5_take_45 : decode cX5_take 45 = .ok (.aload_n 1, 1) := by decide +kernel
theorem dX5_take_46 : decode cX5_take 46 = .ok (.getfield 18, 3) := by decide +kernel
theorem dX5_take_49 : decode cX5_take 49 = .ok (.iload_n 2, 1) := by decide +kernel
theorem dX5_take_50 : decode cX5_take 50 = .ok (.iaload, 1) := by decide +kernel
theorem dX5_take_51 : decode cX5_take 51 = .ok (.iastore, 1) := by decide +kernel
theorem dX5_take_52 : decode cX5_take 52 = .ok (.aload_n 0, 1) := by decide +kernel
theorem dX5_take_53 : decode cX5_take 53 = .ok (.getfield 21, 3) := by decide +kernel
theorem dX5_take_56 : decode cX5_take 56 = .ok (.iload_n 2, 1) := by decide +kernel
theorem dX5_take_57 : decode cX5_take 57 = .ok (.aload_n 1, 1) := by decide +kernel
theorem dX5_take_58 : decode cX5_take 58 = .ok (.getfield 21, 3) := by decide +kernel
theorem dX5_take_61 : decode cX5_take 61 = .ok (.iload_n 2, 1) := by decide +kernel
theorem dX5_take_62 : decode cX5_take 62 = .ok (.iaload, 1) := by decide +kernel
theorem dX5_take_63 : decode cX5_take 63 = .ok (.iastore, 1) := by decide +kernel
theorem dX5_take_64 : decode cX5_take 64 = .ok (.iinc 2 1, 3) := by decide +kernel
theorem dX5_take_67 : decode cX5_take 67 = .ok (.goto (-57), 3) := by decide +kernel
theorem dX5_take_70 : decode cX5_take 70 = .ok (.return_, 1) := by decide +kernel
set_option maxHeartbeats 4000000 in
set_option maxRecDepth 100000 in
/-- n_clear -/
theorem n_clear (l : Launch) (dC : Nat → ClassId) (dI : Nat → Nat → Nat) (sz : Nat) (h0 : Nat) (h0_kept : Int32) (h0when : Nat) (h0who : Nat) (h0secret : Nat) (h0knew : Nat) : Met l yX5_clear (.code yX5_clear cX5_clear 1 none :: wsA) ({ frames := 0, cells := 0, slots := 0, locals := 0 }) (va_Pc [.ref h0] (fun U => U.heap.size = sz ∧ va_P (dC, dI) classes [(h0, .inr (5, [.int h0_kept, .ref h0when, .ref h0who, .ref h0secret, .ref h0knew]))] U.heap ∧ va_K (dC, dI) classes [] U ∧ va_D (fun _ => True) [(h0, .inr (5, [.int h0_kept, .ref h0when, .ref h0who, .ref h0secret, .ref h0knew]))] ∧ xE U)) (va_Qv (fun (_ : Unit) => True) (fun _ t => va_P (dC, dI) classes [(h0, .inr (5, [.int 0, .ref h0when, .ref h0who, .ref h0secret, .ref h0knew]))] t.heap ∧ va_K (dC, dI) classes [] t ∧ va_D (va_A [(h0, .inr (5, [.int h0_kept, .ref h0when, .ref h0who, .ref h0secret, .ref h0knew]))] sz) [(h0, .inr (5, [.int 0, .ref h0when, .ref h0who, .ref h0secret, .ref h0knew]))]) (va_A [(h0, .inr (5, [.int h0_kept, .ref h0when, .ref h0who, .ref h0secret, .ref h0knew]))] sz)) 0 0 (va_A [(h0, .inr (5, [.int h0_kept, .ref h0when, .ref h0who, .ref h0secret, .ref h0knew]))] sz) := by
  refine Met.ofW (cc := cX5_clear) (maxL := 1) (ret := none) (by decide) rfl ?_
  intro p e s m args below meth c s₁ B hml hv
  obtain ⟨rfl, hsz, hP, hK, hD0, hE⟩ := hv
  have hx := B.exec
  have hb := B.bytes
  have hr := B.returns
  have hts := atoms_spec (ws := .code yX5_clear cX5_clear 1 none :: wsA) B.pre
  have hq : ∀ w ∈ wsA, w.before _ s = true := fun w h => hts w (List.mem_cons_of_mem _ h)
  have hown : s.vm.findClass RX5 = some m.cls := findClass_of_methodNamed B.named
  have hlocks := B.notSynchronized
  subst hsz
  have hD := hD0.self (sz := s.heap.size)
  generalize hAe : va_A [(h0, .inr (5, [.int h0_kept, .ref h0when, .ref h0who, .ref h0secret, .ref h0knew]))] s.heap.size = A at hD ⊢
  have hA : ∀ q : Nat, s.heap.size ≤ q → A q := fun q h => by rw [← hAe]; exact Or.inr h
  have hS : va_S A s.heap s.heap [] := va_S.rf
  have hl := lv_entry ([.ref h0]) (n := 1) (Nat.le_of_ble_eq_true rfl)
  rw [lg_entry_eq]
  generalize (lg_sl ([.ref h0]) ++ List.replicate (1 - (lg_sl ([.ref h0])).length) Slot.unset).toArray = ls at hl ⊢
  have hl : lv_has ls 1 [(0, .ref h0)] := hl
  refine lv_aload_n hx hb dX5_clear_0 rfl (lv_at hl 0 rfl) ?_
  refine lv_iconst (v := 0) hx hb dX5_clear_1 (by decide) ?_
  refine va_put (D := (dC, dI)) (ci := 5) (v := .int 0) (ty := .int) (C := RX5) (T := TX5) (N := 5) hx hb hq inX5 tyX5 tyX5_ok nmX5 hown hK hP hD hS 0 rfl rfl 0 (by decide) (hq _ qw_307) (fun _ h9 => h9) rfl (by decide +kernel) rfl rfl (Nat.le_of_ble_eq_true rfl) dX5_clear_2 (fun H locs hP hD hS => ?_)
  have hP : va_P (dC, dI) classes [(h0, .inr (5, [.int 0, .ref h0when, .ref h0who, .ref h0secret, .ref h0knew]))] H := hP
  have hD : va_D A [(h0, .inr (5, [.int 0, .ref h0when, .ref h0who, .ref h0secret, .ref h0knew]))] := hD
  refine W.widen (k := 0) (n := 0) (Nat.le_of_ble_eq_true rfl) (Nat.le_of_ble_eq_true rfl) ?_
  exact W.vret hx hb hr (fun t ht hW => ⟨⟨(), rfl, trivial, by rw [ht]; exact hP, va_K.moved hW.alike hK, hD⟩, hS.F ht⟩) hS.2.2 dX5_clear_5

set_option maxHeartbeats 4000000 in
set_option maxRecDepth 100000 in
/-- n_add -/
theorem n_add (l : Launch) (dC : Nat → ClassId) (dI : Nat → Nat → Nat) (sz : Nat) (h0 : Nat) (h0_kept : Int32) (h0when : Nat) (h0who : Nat) (h0secret : Nat) (h0knew : Nat) (kh0when : ClassId) (gh0when : Nat → Int32) (kh0who : ClassId) (gh0who : Nat → Int32) (kh0secret : ClassId) (gh0secret : Nat → Int32) (kh0knew : ClassId) (gh0knew : Nat → Int32) (x0 : Int32) (x1 : Int32) (x2 : Int32) (x3 : Int32) : Met l yX5_add (.code yX5_add cX5_add 5 (some .boolean) :: wsA) ({ frames := 0, cells := 0, slots := 0, locals := 0 }) (va_Pc [.ref h0, .int x0, .int x1, .int x2, .int x3] (fun U => U.heap.size = sz ∧ va_P (dC, dI) classes [(h0, .inr (5, [.int h0_kept, .ref h0when, .ref h0who, .ref h0secret, .ref h0knew])), (h0when, .inl (kh0when, 10, .inl gh0when)), (h0who, .inl (kh0who, 10, .inl gh0who)), (h0secret, .inl (kh0secret, 10, .inl gh0secret)), (h0knew, .inl (kh0knew, 10, .inl gh0knew))] U.heap ∧ va_K (dC, dI) classes [(kh0when, .int), (kh0who, .int), (kh0secret, .int), (kh0knew, .int)] U ∧ va_D (fun _ => True) [(h0, .inr (5, [.int h0_kept, .ref h0when, .ref h0who, .ref h0secret, .ref h0knew])), (h0when, .inl (kh0when, 10, .inl gh0when)), (h0who, .inl (kh0who, 10, .inl gh0who)), (h0secret, .inl (kh0secret, 10, .inl gh0secret)), (h0knew, .inl (kh0knew, 10, .inl gh0knew))] ∧ xE U)) (va_Qi (fun (r : Int32) (_ : Unit) => True) (fun _ t => ∃ (f_11 : Nat → Int32) (f_12 : Nat → Int32) (f_13 : Nat → Int32) (f_14 : Nat → Int32) (yy_10 : Nat → Int32), va_P (dC, dI) classes [(h0, .inr (5, [.int (yy_10 0), .ref h0when, .ref h0who, .ref h0secret, .ref h0knew])), (h0when, .inl (kh0when, 10, .inl f_11)), (h0who, .inl (kh0who, 10, .inl f_12)), (h0secret, .inl (kh0secret, 10, .inl f_13)), (h0knew, .inl (kh0knew, 10, .inl f_14))] t.heap ∧ va_K (dC, dI) classes [(kh0when, .int), (kh0who, .int), (kh0secret, .int), (kh0knew, .int)] t ∧ va_D (va_A [(h0, .inr (5, [.int h0_kept, .ref h0when, .ref h0who, .ref h0secret, .ref h0knew])), (h0when, .inl (kh0when, 10, .inl gh0when)), (h0who, .inl (kh0who, 10, .inl gh0who)), (h0secret, .inl (kh0secret, 10, .inl gh0secret)), (h0knew, .inl (kh0knew, 10, .inl gh0knew))] sz) [(h0, .inr (5, [.int (yy_10 0), .ref h0when, .ref h0who, .ref h0secret, .ref h0knew])), (h0when, .inl (kh0when, 10, .inl f_11)), (h0who, .inl (kh0who, 10, .inl f_12)), (h0secret, .inl (kh0secret, 10, .inl f_13)), (h0knew, .inl (kh0knew, 10, .inl f_14))]) (va_A [(h0, .inr (5, [.int h0_kept, .ref h0when, .ref h0who, .ref h0secret, .ref h0knew])), (h0when, .inl (kh0when, 10, .inl gh0when)), (h0who, .inl (kh0who, 10, .inl gh0who)), (h0secret, .inl (kh0secret, 10, .inl gh0secret)), (h0knew, .inl (kh0knew, 10, .inl gh0knew))] sz)) 0 0 (va_A [(h0, .inr (5, [.int h0_kept, .ref h0when, .ref h0who, .ref h0secret, .ref h0knew])), (h0when, .inl (kh0when, 10, .inl gh0when)), (h0who, .inl (kh0who, 10, .inl gh0who)), (h0secret, .inl (kh0secret, 10, .inl gh0secret)), (h0knew, .inl (kh0knew, 10, .inl gh0knew))] sz) := by
  refine Met.ofW (cc := cX5_add) (maxL := 5) (ret := (some .boolean)) (by decide) rfl ?_
  intro p e s m args below meth c s₁ B hml hv
  obtain ⟨rfl, hsz, hP, hK, hD0, hE⟩ := hv
  have hx := B.exec
  have hb := B.bytes
  have hr := B.returns
  have hts := atoms_spec (ws := .code yX5_add cX5_add 5 (some .boolean) :: wsA) B.pre
  have hq : ∀ w ∈ wsA, w.before _ s = true := fun w h => hts w (List.mem_cons_of_mem _ h)
  have hown : s.vm.findClass RX5 = some m.cls := findClass_of_methodNamed B.named
  have hlocks := B.notSynchronized
  subst hsz
  have hD := hD0.self (sz := s.heap.size)
  generalize hAe : va_A [(h0, .inr (5, [.int h0_kept, .ref h0when, .ref h0who, .ref h0secret, .ref h0knew])), (h0when, .inl (kh0when, 10, .inl gh0when)), (h0who, .inl (kh0who, 10, .inl gh0who)), (h0secret, .inl (kh0secret, 10, .inl gh0secret)), (h0knew, .inl (kh0knew, 10, .inl gh0knew))] s.heap.size = A at hD ⊢
  have hA : ∀ q : Nat, s.heap.size ≤ q → A q := fun q h => by rw [← hAe]; exact Or.inr h
  have hS : va_S A s.heap s.heap [] := va_S.rf
  have hl := lv_entry ([.ref h0, .int x0, .int x1, .int x2, .int x3]) (n := 5) (Nat.le_of_ble_eq_true rfl)
  rw [lg_entry_eq]
  generalize (lg_sl ([.ref h0, .int x0, .int x1, .int x2, .int x3]) ++ List.replicate (5 - (lg_sl ([.ref h0, .int x0, .int x1, .int x2, .int x3])).length) Slot.unset).toArray = ls at hl ⊢
  have hl : lv_has ls 5 [(0, .ref h0), (1, .int x0), (2, .int x1), (3, .int x2), (4, .int x3)] := hl
  refine lv_aload_n hx hb dX5_add_0 rfl (lv_at hl 0 rfl) ?_
  refine va_get (D := (dC, dI)) (ci := 5) (v := .int h0_kept) (C := RX5) (T := TX5) (N := 5) hx hb hq inX5 hown hK hP 0 rfl rfl 0 (by decide) (hq _ qw_307) (fun _ h9 => h9) rfl dX5_add_1 ?_
  refine W.cut (I := fun H locs g => ∃ (ls : Array Slot), va_P (dC, dI) classes [(h0, .inr (5, [.int h0_kept, .ref h0when, .ref h0who, .ref h0secret, .ref h0knew])), (h0when, .inl (kh0when, 10, .inl gh0when)), (h0who, .inl (kh0who, 10, .inl gh0who)), (h0secret, .inl (kh0secret, 10, .inl gh0secret)), (h0knew, .inl (kh0knew, 10, .inl gh0knew))] H ∧ va_D A [(h0, .inr (5, [.int h0_kept, .ref h0when, .ref h0who, .ref h0secret, .ref h0knew])), (h0when, .inl (kh0when, 10, .inl gh0when)), (h0who, .inl (kh0who, 10, .inl gh0who)), (h0secret, .inl (kh0secret, 10, .inl gh0secret)), (h0knew, .inl (kh0knew, 10, .inl gh0knew))] ∧ va_S A s.heap H locs ∧ lv_has ls 5 [] ∧ g = F0 m 16 ls []) (fun H locs g h => ?_) (fun hJ16 => ?_)
  · obtain ⟨ls, hP, hD, hS, hl, rfl⟩ := h
    refine lv_iconst (v := 0) hx hb dX5_add_16 (by decide) ?_
    refine W.widen (k := 0) (n := 0) (Nat.le_of_ble_eq_true rfl) (Nat.le_of_ble_eq_true rfl) ?_
    exact W.zret (v := 0) hx hb hr (by decide) (fun t ht hW => ⟨⟨0, (), rfl, trivial, gh0when, gh0who, gh0secret, gh0knew, (fun i => [h0_kept].getD i 0), by rw [ht]; exact hP, va_K.moved hW.alike hK, hD⟩, hS.F ht⟩) hS.2.2 dX5_add_17
  refine lv_if_lt (tgt := 16) hx hb dX5_add_4 (by decide) (fun c_24 => ?_) (fun c_24 => ?_)
  · exact hJ16 _ _ _ ⟨_, hP, hD, hS, (lv_sub hl [] rfl), rfl⟩
  · refine lv_aload_n hx hb dX5_add_7 rfl (lv_at hl 0 rfl) ?_
    refine va_get (D := (dC, dI)) (ci := 5) (v := .int h0_kept) (C := RX5) (T := TX5) (N := 5) hx hb hq inX5 hown hK hP 0 rfl rfl 0 (by decide) (hq _ qw_307) (fun _ h9 => h9) rfl dX5_add_8 ?_
    refine lv_bipush (v := 10) hx hb dX5_add_11 (by decide) ?_
    refine lv_icmp_lt (tgt := 18) hx hb dX5_add_13 (by decide) (fun c_25 => ?_) (fun c_25 => ?_)
    · refine lv_aload_n hx hb dX5_add_18 rfl (lv_at hl 0 rfl) ?_
      refine va_get (D := (dC, dI)) (ci := 5) (v := .ref h0when) (C := RX5) (T := TX5) (N := 5) hx hb hq inX5 hown hK hP 0 rfl rfl 1 (by decide) (hq _ qw_309) (fun _ h9 => h9) rfl dX5_add_19 ?_
      refine lv_aload_n hx hb dX5_add_22 rfl (lv_at hl 0 rfl) ?_
      refine va_get (D := (dC, dI)) (ci := 5) (v := .int h0_kept) (C := RX5) (T := TX5) (N := 5) hx hb hq inX5 hown hK hP 0 rfl rfl 0 (by decide) (hq _ qw_307) (fun _ h9 => h9) rfl dX5_add_23 ?_
      refine lv_iload_n hx hb dX5_add_26 rfl (lv_at hl 1 rfl) ?_
      have b_26 : bt 0 2147483647 h0_kept := rf_le_r (bt_k (x := 0) (c := 0) (by decide)) (bt_all h0_kept) (Int32.not_lt.mp c_24) (by decide)
      have b_27 : bt 0 9 h0_kept := rf_lt_l b_26 (bt_k (x := 10) (c := 10) (by decide)) c_25 (by decide)
      refine va_iast hx hb hK hP hD hS 1 0 rfl rfl (bt_in b_27 (by decide)) dX5_add_27 (fun H locs hP hD hS => ?_)
      obtain ⟨f_28, ef_28⟩ : ∃ f, f = upd gh0when (Int32.toNatClampNeg h0_kept) x0 := ⟨_, rfl⟩
      rw [← ef_28] at hP hD
      have hP : va_P (dC, dI) classes [(h0, .inr (5, [.int h0_kept, .ref h0when, .ref h0who, .ref h0secret, .ref h0knew])), (h0when, .inl (kh0when, 10, .inl f_28)), (h0who, .inl (kh0who, 10, .inl gh0who)), (h0secret, .inl (kh0secret, 10, .inl gh0secret)), (h0knew, .inl (kh0knew, 10, .inl gh0knew))] H := hP
      have hD : va_D A [(h0, .inr (5, [.int h0_kept, .ref h0when, .ref h0who, .ref h0secret, .ref h0knew])), (h0when, .inl (kh0when, 10, .inl f_28)), (h0who, .inl (kh0who, 10, .inl gh0who)), (h0secret, .inl (kh0secret, 10, .inl gh0secret)), (h0knew, .inl (kh0knew, 10, .inl gh0knew))] := hD
      refine lv_aload_n hx hb dX5_add_28 rfl (lv_at hl 0 rfl) ?_
      refine va_get (D := (dC, dI)) (ci := 5) (v := .ref h0who) (C := RX5) (T := TX5) (N := 5) hx hb hq inX5 hown hK hP 0 rfl rfl 2 (by decide) (hq _ qw_310) (fun _ h9 => h9) rfl dX5_add_29 ?_
      refine lv_aload_n hx hb dX5_add_32 rfl (lv_at hl 0 rfl) ?_
      refine va_get (D := (dC, dI)) (ci := 5) (v := .int h0_kept) (C := RX5) (T := TX5) (N := 5) hx hb hq inX5 hown hK hP 0 rfl rfl 0 (by decide) (hq _ qw_307) (fun _ h9 => h9) rfl dX5_add_33 ?_
      refine lv_iload_n hx hb dX5_add_36 rfl (lv_at hl 2 rfl) ?_
      refine va_iast hx hb hK hP hD hS 2 1 rfl rfl (bt_in b_27 (by decide)) dX5_add_37 (fun H locs hP hD hS => ?_)
      obtain ⟨f_29, ef_29⟩ : ∃ f, f = upd gh0who (Int32.toNatClampNeg h0_kept) x1 := ⟨_, rfl⟩
      rw [← ef_29] at hP hD
      have hP : va_P (dC, dI) classes [(h0, .inr (5, [.int h0_kept, .ref h0when, .ref h0who, .ref h0secret, .ref h0knew])), (h0when, .inl (kh0when, 10, .inl f_28)), (h0who, .inl (kh0who, 10, .inl f_29)), (h0secret, .inl (kh0secret, 10, .inl gh0secret)), (h0knew, .inl (kh0knew, 10, .inl gh0knew))] H := hP
      have hD : va_D A [(h0, .inr (5, [.int h0_kept, .ref h0when, .ref h0who, .ref h0secret, .ref h0knew])), (h0when, .inl (kh0when, 10, .inl f_28)), (h0who, .inl (kh0who, 10, .inl f_29)), (h0secret, .inl (kh0secret, 10, .inl gh0secret)), (h0knew, .inl (kh0knew, 10, .inl gh0knew))] := hD
      refine lv_aload_n hx hb dX5_add_38 rfl (lv_at hl 0 rfl) ?_
      refine va_get (D := (dC, dI)) (ci := 5) (v := .ref h0secret) (C := RX5) (T := TX5) (N := 5) hx hb hq inX5 hown hK hP 0 rfl rfl 3 (by decide) (hq _ qw_311) (fun _ h9 => h9) rfl dX5_add_39 ?_
      refine lv_aload_n hx hb dX5_add_42 rfl (lv_at hl 0 rfl) ?_
      refine va_get (D := (dC, dI)) (ci := 5) (v := .int h0_kept) (C := RX5) (T := TX5) (N := 5) hx hb hq inX5 hown hK hP 0 rfl rfl 0 (by decide) (hq _ qw_307) (fun _ h9 => h9) rfl dX5_add_43 ?_
      refine lv_iload_n hx hb dX5_add_46 rfl (lv_at hl 3 rfl) ?_
      refine va_iast hx hb hK hP hD hS 3 2 rfl rfl (bt_in b_27 (by decide)) dX5_add_47 (fun H locs hP hD hS => ?_)
      obtain ⟨f_30, ef_30⟩ : ∃ f, f = upd gh0secret (Int32.toNatClampNeg h0_kept) x2 := ⟨_, rfl⟩
      rw [← ef_30] at hP hD
      have hP : va_P (dC, dI) classes [(h0, .inr (5, [.int h0_kept, .ref h0when, .ref h0who, .ref h0secret, .ref h0knew])), (h0when, .inl (kh0when, 10, .inl f_28)), (h0who, .inl (kh0who, 10, .inl f_29)), (h0secret, .inl (kh0secret, 10, .inl f_30)), (h0knew, .inl (kh0knew, 10, .inl gh0knew))] H := hP
      have hD : va_D A [(h0, .inr (5, [.int h0_kept, .ref h0when, .ref h0who, .ref h0secret, .ref h0knew])), (h0when, .inl (kh0when, 10, .inl f_28)), (h0who, .inl (kh0who, 10, .inl f_29)), (h0secret, .inl (kh0secret, 10, .inl f_30)), (h0knew, .inl (kh0knew, 10, .inl gh0knew))] := hD
      refine lv_aload_n hx hb dX5_add_48 rfl (lv_at hl 0 rfl) ?_
      refine va_get (D := (dC, dI)) (ci := 5) (v := .ref h0knew) (C := RX5) (T := TX5) (N := 5) hx hb hq inX5 hown hK hP 0 rfl rfl 4 (by decide) (hq _ qw_312) (fun _ h9 => h9) rfl dX5_add_49 ?_
      refine lv_aload_n hx hb dX5_add_52 rfl (lv_at hl 0 rfl) ?_
      refine va_get (D := (dC, dI)) (ci := 5) (v := .int h0_kept) (C := RX5) (T := TX5) (N := 5) hx hb hq inX5 hown hK hP 0 rfl rfl 0 (by decide) (hq _ qw_307) (fun _ h9 => h9) rfl dX5_add_53 ?_
      refine lv_iload hx hb dX5_add_56 (lv_at hl 4 rfl) ?_
      refine va_iast hx hb hK hP hD hS 4 3 rfl rfl (bt_in b_27 (by decide)) dX5_add_58 (fun H locs hP hD hS => ?_)
      obtain ⟨f_31, ef_31⟩ : ∃ f, f = upd gh0knew (Int32.toNatClampNeg h0_kept) x3 := ⟨_, rfl⟩
      rw [← ef_31] at hP hD
      have hP : va_P (dC, dI) classes [(h0, .inr (5, [.int h0_kept, .ref h0when, .ref h0who, .ref h0secret, .ref h0knew])), (h0when, .inl (kh0when, 10, .inl f_28)), (h0who, .inl (kh0who, 10, .inl f_29)), (h0secret, .inl (kh0secret, 10, .inl f_30)), (h0knew, .inl (kh0knew, 10, .inl f_31))] H := hP
      have hD : va_D A [(h0, .inr (5, [.int h0_kept, .ref h0when, .ref h0who, .ref h0secret, .ref h0knew])), (h0when, .inl (kh0when, 10, .inl f_28)), (h0who, .inl (kh0who, 10, .inl f_29)), (h0secret, .inl (kh0secret, 10, .inl f_30)), (h0knew, .inl (kh0knew, 10, .inl f_31))] := hD
      refine lv_aload_n hx hb dX5_add_59 rfl (lv_at hl 0 rfl) ?_
      refine lv_dup hx hb dX5_add_60 rfl ?_
      refine va_get (D := (dC, dI)) (ci := 5) (v := .int h0_kept) (C := RX5) (T := TX5) (N := 5) hx hb hq inX5 hown hK hP 0 rfl rfl 0 (by decide) (hq _ qw_307) (fun _ h9 => h9) rfl dX5_add_61 ?_
      refine lv_iconst (v := 1) hx hb dX5_add_64 (by decide) ?_
      refine lv_iadd hx hb dX5_add_65 ?_
      refine lv_topi (fun y_32 ey_32 => ?_)
      refine va_put (D := (dC, dI)) (ci := 5) (v := .int y_32) (ty := .int) (C := RX5) (T := TX5) (N := 5) hx hb hq inX5 tyX5 tyX5_ok nmX5 hown hK hP hD hS 0 rfl rfl 0 (by decide) (hq _ qw_307) (fun _ h9 => h9) rfl (by decide +kernel) rfl rfl (Nat.le_of_ble_eq_true rfl) dX5_add_66 (fun H locs hP hD hS => ?_)
      have hP : va_P (dC, dI) classes [(h0, .inr (5, [.int y_32, .ref h0when, .ref h0who, .ref h0secret, .ref h0knew])), (h0when, .inl (kh0when, 10, .inl f_28)), (h0who, .inl (kh0who, 10, .inl f_29)), (h0secret, .inl (kh0secret, 10, .inl f_30)), (h0knew, .inl (kh0knew, 10, .inl f_31))] H := hP
      have hD : va_D A [(h0, .inr (5, [.int y_32, .ref h0when, .ref h0who, .ref h0secret, .ref h0knew])), (h0when, .inl (kh0when, 10, .inl f_28)), (h0who, .inl (kh0who, 10, .inl f_29)), (h0secret, .inl (kh0secret, 10, .inl f_30)), (h0knew, .inl (kh0knew, 10, .inl f_31))] := hD
      refine lv_iconst (v := 1) hx hb dX5_add_69 (by decide) ?_
      refine W.widen (k := 0) (n := 0) (Nat.le_of_ble_eq_true rfl) (Nat.le_of_ble_eq_true rfl) ?_
      exact W.zret (v := 1) hx hb hr (by decide) (fun t ht hW => ⟨⟨1, (), rfl, trivial, f_28, f_29, f_30, f_31, (fun i => [y_32].getD i 0), by rw [ht]; exact hP, va_K.moved hW.alike hK, hD⟩, hS.F ht⟩) hS.2.2 dX5_add_70
    · exact hJ16 _ _ _ ⟨_, hP, hD, hS, (lv_sub hl [] rfl), rfl⟩

set_option maxHeartbeats 4000000 in
set_option maxRecDepth 100000 in
/-- n_take -/
theorem n_take (l : Launch) (dC : Nat → ClassId) (dI : Nat → Nat → Nat) (sz : Nat) (h0 : Nat) (h0_kept : Int32) (h0when : Nat) (h0who : Nat) (h0secret : Nat) (h0knew : Nat) (kh0when : ClassId) (gh0when : Nat → Int32) (kh0who : ClassId) (gh0who : Nat → Int32) (kh0secret : ClassId) (gh0secret : Nat → Int32) (kh0knew : ClassId) (gh0knew : Nat → Int32) (h1 : Nat) (h1_kept : Int32) (h1when : Nat) (h1who : Nat) (h1secret : Nat) (h1knew : Nat) (kh1when : ClassId) (gh1when : Nat → Int32) (kh1who : ClassId) (gh1who : Nat → Int32) (kh1secret : ClassId) (gh1secret : Nat → Int32) (kh1knew : ClassId) (gh1knew : Nat → Int32) : Met l yX5_take (.code yX5_take cX5_take 3 none :: wsA) ({ frames := 0, cells := 0, slots := 0, locals := 0 }) (va_Pc [.ref h0, .ref h1] (fun U => U.heap.size = sz ∧ va_P (dC, dI) classes [(h0, .inr (5, [.int h0_kept, .ref h0when, .ref h0who, .ref h0secret, .ref h0knew])), (h0when, .inl (kh0when, 10, .inl gh0when)), (h0who, .inl (kh0who, 10, .inl gh0who)), (h0secret, .inl (kh0secret, 10, .inl gh0secret)), (h0knew, .inl (kh0knew, 10, .inl gh0knew)), (h1, .inr (5, [.int h1_kept, .ref h1when, .ref h1who, .ref h1secret, .ref h1knew])), (h1when, .inl (kh1when, 10, .inl gh1when)), (h1who, .inl (kh1who, 10, .inl gh1who)), (h1secret, .inl (kh1secret, 10, .inl gh1secret)), (h1knew, .inl (kh1knew, 10, .inl gh1knew))] U.heap ∧ va_K (dC, dI) classes [(kh0when, .int), (kh0who, .int), (kh0secret, .int), (kh0knew, .int), (kh1when, .int), (kh1who, .int), (kh1secret, .int), (kh1knew, .int)] U ∧ va_D (fun _ => True) [(h0, .inr (5, [.int h0_kept, .ref h0when, .ref h0who, .ref h0secret, .ref h0knew])), (h0when, .inl (kh0when, 10, .inl gh0when)), (h0who, .inl (kh0who, 10, .inl gh0who)), (h0secret, .inl (kh0secret, 10, .inl gh0secret)), (h0knew, .inl (kh0knew, 10, .inl gh0knew)), (h1, .inr (5, [.int h1_kept, .ref h1when, .ref h1who, .ref h1secret, .ref h1knew])), (h1when, .inl (kh1when, 10, .inl gh1when)), (h1who, .inl (kh1who, 10, .inl gh1who)), (h1secret, .inl (kh1secret, 10, .inl gh1secret)), (h1knew, .inl (kh1knew, 10, .inl gh1knew))] ∧ xE U)) (va_Qv (fun (_ : Unit) => True) (fun _ t => ∃ (f_88 : Nat → Int32) (f_89 : Nat → Int32) (f_90 : Nat → Int32) (f_91 : Nat → Int32), va_P (dC, dI) classes [(h0, .inr (5, [.int h1_kept, .ref h0when, .ref h0who, .ref h0secret, .ref h0knew])), (h0when, .inl (kh0when, 10, .inl f_88)), (h0who, .inl (kh0who, 10, .inl f_89)), (h0secret, .inl (kh0secret, 10, .inl f_90)), (h0knew, .inl (kh0knew, 10, .inl f_91)), (h1, .inr (5, [.int h1_kept, .ref h1when, .ref h1who, .ref h1secret, .ref h1knew])), (h1when, .inl (kh1when, 10, .inl gh1when)), (h1who, .inl (kh1who, 10, .inl gh1who)), (h1secret, .inl (kh1secret, 10, .inl gh1secret)), (h1knew, .inl (kh1knew, 10, .inl gh1knew))] t.heap ∧ va_K (dC, dI) classes [(kh0when, .int), (kh0who, .int), (kh0secret, .int), (kh0knew, .int), (kh1when, .int), (kh1who, .int), (kh1secret, .int), (kh1knew, .int)] t ∧ va_D (va_A [(h0, .inr (5, [.int h0_kept, .ref h0when, .ref h0who, .ref h0secret, .ref h0knew])), (h0when, .inl (kh0when, 10, .inl gh0when)), (h0who, .inl (kh0who, 10, .inl gh0who)), (h0secret, .inl (kh0secret, 10, .inl gh0secret)), (h0knew, .inl (kh0knew, 10, .inl gh0knew)), (h1, .inr (5, [.int h1_kept, .ref h1when, .ref h1who, .ref h1secret, .ref h1knew])), (h1when, .inl (kh1when, 10, .inl gh1when)), (h1who, .inl (kh1who, 10, .inl gh1who)), (h1secret, .inl (kh1secret, 10, .inl gh1secret)), (h1knew, .inl (kh1knew, 10, .inl gh1knew))] sz) [(h0, .inr (5, [.int h1_kept, .ref h0when, .ref h0who, .ref h0secret, .ref h0knew])), (h0when, .inl (kh0when, 10, .inl f_88)), (h0who, .inl (kh0who, 10, .inl f_89)), (h0secret, .inl (kh0secret, 10, .inl f_90)), (h0knew, .inl (kh0knew, 10, .inl f_91)), (h1, .inr (5, [.int h1_kept, .ref h1when, .ref h1who, .ref h1secret, .ref h1knew])), (h1when, .inl (kh1when, 10, .inl gh1when)), (h1who, .inl (kh1who, 10, .inl gh1who)), (h1secret, .inl (kh1secret, 10, .inl gh1secret)), (h1knew, .inl (kh1knew, 10, .inl gh1knew))]) (va_A [(h0, .inr (5, [.int h0_kept, .ref h0when, .ref h0who, .ref h0secret, .ref h0knew])), (h0when, .inl (kh0when, 10, .inl gh0when)), (h0who, .inl (kh0who, 10, .inl gh0who)), (h0secret, .inl (kh0secret, 10, .inl gh0secret)), (h0knew, .inl (kh0knew, 10, .inl gh0knew)), (h1, .inr (5, [.int h1_kept, .ref h1when, .ref h1who, .ref h1secret, .ref h1knew])), (h1when, .inl (kh1when, 10, .inl gh1when)), (h1who, .inl (kh1who, 10, .inl gh1who)), (h1secret, .inl (kh1secret, 10, .inl gh1secret)), (h1knew, .inl (kh1knew, 10, .inl gh1knew))] sz)) 0 0 (va_A [(h0, .inr (5, [.int h0_kept, .ref h0when, .ref h0who, .ref h0secret, .ref h0knew])), (h0when, .inl (kh0when, 10, .inl gh0when)), (h0who, .inl (kh0who, 10, .inl gh0who)), (h0secret, .inl (kh0secret, 10, .inl gh0secret)), (h0knew, .inl (kh0knew, 10, .inl gh0knew)), (h1, .inr (5, [.int h1_kept, .ref h1when, .ref h1who, .ref h1secret, .ref h1knew])), (h1when, .inl (kh1when, 10, .inl gh1when)), (h1who, .inl (kh1who, 10, .inl gh1who)), (h1secret, .inl (kh1secret, 10, .inl gh1secret)), (h1knew, .inl (kh1knew, 10, .inl gh1knew))] sz) := by
  refine Met.ofW (cc := cX5_take) (maxL := 3) (ret := none) (by decide) rfl ?_
  intro p e s m args below meth c s₁ B hml hv
  obtain ⟨rfl, hsz, hP, hK, hD0, hE⟩ := hv
  have hx := B.exec
  have hb := B.bytes
  have hr := B.returns
  have hts := atoms_spec (ws := .code yX5_take cX5_take 3 none :: wsA) B.pre
  have hq : ∀ w ∈ wsA, w.before _ s = true := fun w h => hts w (List.mem_cons_of_mem _ h)
  have hown : s.vm.findClass RX5 = some m.cls := findClass_of_methodNamed B.named
  have hlocks := B.notSynchronized
  subst hsz
  have hD := hD0.self (sz := s.heap.size)
  generalize hAe : va_A [(h0, .inr (5, [.int h0_kept, .ref h0when, .ref h0who, .ref h0secret, .ref h0knew])), (h0when, .inl (kh0when, 10, .inl gh0when)), (h0who, .inl (kh0who, 10, .inl gh0who)), (h0secret, .inl (kh0secret, 10, .inl gh0secret)), (h0knew, .inl (kh0knew, 10, .inl gh0knew)), (h1, .inr (5, [.int h1_kept, .ref h1when, .ref h1who, .ref h1secret, .ref h1knew])), (h1when, .inl (kh1when, 10, .inl gh1when)), (h1who, .inl (kh1who, 10, .inl gh1who)), (h1secret, .inl (kh1secret, 10, .inl gh1secret)), (h1knew, .inl (kh1knew, 10, .inl gh1knew))] s.heap.size = A at hD ⊢
  have hA : ∀ q : Nat, s.heap.size ≤ q → A q := fun q h => by rw [← hAe]; exact Or.inr h
  have hS : va_S A s.heap s.heap [] := va_S.rf
  have hl := lv_entry ([.ref h0, .ref h1]) (n := 3) (Nat.le_of_ble_eq_true rfl)
  rw [lg_entry_eq]
  generalize (lg_sl ([.ref h0, .ref h1]) ++ List.replicate (3 - (lg_sl ([.ref h0, .ref h1])).length) Slot.unset).toArray = ls at hl ⊢
  have hl : lv_has ls 3 [(0, .ref h0), (1, .ref h1)] := hl
  refine lv_aload_n hx hb dX5_take_0 rfl (lv_at hl 0 rfl) ?_
  refine lv_aload_n hx hb dX5_take_1 rfl (lv_at hl 1 rfl) ?_
  refine va_get (D := (dC, dI)) (ci := 5) (v := .int h1_kept) (C := RX5) (T := TX5) (N := 5) hx hb hq inX5 hown hK hP 5 rfl rfl 0 (by decide) (hq _ qw_307) (fun _ h9 => h9) rfl dX5_take_2 ?_
  refine va_put (D := (dC, dI)) (ci := 5) (v := .int h1_kept) (ty := .int) (C := RX5) (T := TX5) (N := 5) hx hb hq inX5 tyX5 tyX5_ok nmX5 hown hK hP hD hS 0 rfl rfl 0 (by decide) (hq _ qw_307) (fun _ h9 => h9) rfl (by decide +kernel) rfl rfl (Nat.le_of_ble_eq_true rfl) dX5_take_5 (fun H locs hP hD hS => ?_)
  have hP : va_P (dC, dI) classes [(h0, .inr (5, [.int h1_kept, .ref h0when, .ref h0who, .ref h0secret, .ref h0knew])), (h0when, .inl (kh0when, 10, .inl gh0when)), (h0who, .inl (kh0who, 10, .inl gh0who)), (h0secret, .inl (kh0secret, 10, .inl gh0secret)), (h0knew, .inl (kh0knew, 10, .inl gh0knew)), (h1, .inr (5, [.int h1_kept, .ref h1when, .ref h1who, .ref h1secret, .ref h1knew])), (h1when, .inl (kh1when, 10, .inl gh1when)), (h1who, .inl (kh1who, 10, .inl gh1who)), (h1secret, .inl (kh1secret, 10, .inl gh1secret)), (h1knew, .inl (kh1knew, 10, .inl gh1knew))] H := hP
  have hD : va_D A [(h0, .inr (5, [.int h1_kept, .ref h0when, .ref h0who, .ref h0secret, .ref h0knew])), (h0when, .inl (kh0when, 10, .inl gh0when)), (h0who, .inl (kh0who, 10, .inl gh0who)), (h0secret, .inl (kh0secret, 10, .inl gh0secret)), (h0knew, .inl (kh0knew, 10, .inl gh0knew)), (h1, .inr (5, [.int h1_kept, .ref h1when, .ref h1who, .ref h1secret, .ref h1knew])), (h1when, .inl (kh1when, 10, .inl gh1when)), (h1who, .inl (kh1who, 10, .inl gh1who)), (h1secret, .inl (kh1secret, 10, .inl gh1secret)), (h1knew, .inl (kh1knew, 10, .inl gh1knew))] := hD
  refine lv_iconst (v := 0) hx hb dX5_take_8 (by decide) ?_
  refine lv_istore_n (lv' := [(2, .int 0), (0, .ref h0), (1, .ref h1)]) hx hb dX5_take_9 rfl hl (by decide) rfl (fun ls hl => ?_)
  refine W.loop (I := fun n H locs g => ∃ (y_100 : Int32) (f_101 : Nat → Int32) (f_102 : Nat → Int32) (f_103 : Nat → Int32) (f_104 : Nat → Int32) (ls : Array Slot), bt 0 10 y_100 ∧ 10 - y_100.toInt < (n : Int) ∧ va_P (dC, dI) classes [(h0, .inr (5, [.int h1_kept, .ref h0when, .ref h0who, .ref h0secret, .ref h0knew])), (h0when, .inl (kh0when, 10, .inl f_101)), (h0who, .inl (kh0who, 10, .inl f_102)), (h0secret, .inl (kh0secret, 10, .inl f_103)), (h0knew, .inl (kh0knew, 10, .inl f_104)), (h1, .inr (5, [.int h1_kept, .ref h1when, .ref h1who, .ref h1secret, .ref h1knew])), (h1when, .inl (kh1when, 10, .inl gh1when)), (h1who, .inl (kh1who, 10, .inl gh1who)), (h1secret, .inl (kh1secret, 10, .inl gh1secret)), (h1knew, .inl (kh1knew, 10, .inl gh1knew))] H ∧ va_D A [(h0, .inr (5, [.int h1_kept, .ref h0when, .ref h0who, .ref h0secret, .ref h0knew])), (h0when, .inl (kh0when, 10, .inl f_101)), (h0who, .inl (kh0who, 10, .inl f_102)), (h0secret, .inl (kh0secret, 10, .inl f_103)), (h0knew, .inl (kh0knew, 10, .inl f_104)), (h1, .inr (5, [.int h1_kept, .ref h1when, .ref h1who, .ref h1secret, .ref h1knew])), (h1when, .inl (kh1when, 10, .inl gh1when)), (h1who, .inl (kh1who, 10, .inl gh1who)), (h1secret, .inl (kh1secret, 10, .inl gh1secret)), (h1knew, .inl (kh1knew, 10, .inl gh1knew))] ∧ va_S A s.heap H locs ∧ lv_has ls 3 [(2, .int y_100), (0, .ref h0), (1, .ref h1)] ∧ g = F0 m 10 ls []) (fun H locs g h => ?_) (fun n ih10 H locs g h => ?_) (n := 11) ⟨0, gh0when, gh0who, gh0secret, gh0knew, _, (bt_w (bt_k (x := 0) (c := 0) (by decide)) (by decide)), (ms_0 (bt_k (x := 0) (c := 0) (by decide)) (by decide)), hP, hD, hS, hl, rfl⟩
  · obtain ⟨y_100, f_101, f_102, f_103, f_104, ls, bd_v_2, hm, hP, hD, hS, hl, rfl⟩ := h
    exact ms_z bd_v_2 hm
  · obtain ⟨y_100, f_101, f_102, f_103, f_104, ls, bd_v_2, hm10, hP, hD, hS, hl, rfl⟩ := h
    refine lv_iload_n hx hb dX5_take_10 rfl (lv_at hl 0 rfl) ?_
    refine lv_bipush (v := 10) hx hb dX5_take_11 (by decide) ?_
    refine lv_icmp_ge (tgt := 70) hx hb dX5_take_13 (by decide) (fun c_168 => ?_) (fun c_168 => ?_)
    · refine W.widen (k := 0) (n := 0) (Nat.le_of_ble_eq_true rfl) (Nat.le_of_ble_eq_true rfl) ?_
      exact W.vret hx hb hr (fun t ht hW => ⟨⟨(), rfl, trivial, f_101, f_102, f_103, f_104, by rw [ht]; exact hP, va_K.moved hW.alike hK, hD⟩, hS.F ht⟩) hS.2.2 dX5_take_70
    · refine lv_aload_n hx hb dX5_take_16 rfl (lv_at hl 1 rfl) ?_
      refine va_get (D := (dC, dI)) (ci := 5) (v := .ref h0when) (C := RX5) (T := TX5) (N := 5) hx hb hq inX5 hown hK hP 0 rfl rfl 1 (by decide) (hq _ qw_309) (fun _ h9 => h9) rfl dX5_take_17 ?_
      refine lv_iload_n hx hb dX5_take_20 rfl (lv_at hl 0 rfl) ?_
      refine lv_aload_n hx hb dX5_take_21 rfl (lv_at hl 2 rfl) ?_
      refine va_get (D := (dC, dI)) (ci := 5) (v := .ref h1when) (C := RX5) (T := TX5) (N := 5) hx hb hq inX5 hown hK hP 5 rfl rfl 1 (by decide) (hq _ qw_309) (fun _ h9 => h9) rfl dX5_take_22 ?_
      refine lv_iload_n hx hb dX5_take_25 rfl (lv_at hl 0 rfl) ?_
      have b_169 : bt 0 9 y_100 := rf_lt_l bd_v_2 (bt_k (x := 10) (c := 10) (by decide)) (Int32.not_le.mp c_168) (by decide)
      refine va_iald hx hb hK hP 6 4 rfl rfl (bt_in b_169 (by decide)) dX5_take_26 ?_
      refine lv_topi (fun y_170 ey_170 => ?_)
      refine va_iast hx hb hK hP hD hS 1 0 rfl rfl (bt_in b_169 (by decide)) dX5_take_27 (fun H locs hP hD hS => ?_)
      obtain ⟨f_171, ef_171⟩ : ∃ f, f = upd f_101 (Int32.toNatClampNeg y_100) y_170 := ⟨_, rfl⟩
      rw [← ef_171] at hP hD
      have hP : va_P (dC, dI) classes [(h0, .inr (5, [.int h1_kept, .ref h0when, .ref h0who, .ref h0secret, .ref h0knew])), (h0when, .inl (kh0when, 10, .inl f_171)), (h0who, .inl (kh0who, 10, .inl f_102)), (h0secret, .inl (kh0secret, 10, .inl f_103)), (h0knew, .inl (kh0knew, 10, .inl f_104)), (h1, .inr (5, [.int h1_kept, .ref h1when, .ref h1who, .ref h1secret, .ref h1knew])), (h1when, .inl (kh1when, 10, .inl gh1when)), (h1who, .inl (kh1who, 10, .inl gh1who)), (h1secret, .inl (kh1secret, 10, .inl gh1secret)), (h1knew, .inl (kh1knew, 10, .inl gh1knew))] H := hP
      have hD : va_D A [(h0, .inr (5, [.int h1_kept, .ref h0when, .ref h0who, .ref h0secret, .ref h0knew])), (h0when, .inl (kh0when, 10, .inl f_171)), (h0who, .inl (kh0who, 10, .inl f_102)), (h0secret, .inl (kh0secret, 10, .inl f_103)), (h0knew, .inl (kh0knew, 10, .inl f_104)), (h1, .inr (5, [.int h1_kept, .ref h1when, .ref h1who, .ref h1secret, .ref h1knew])), (h1when, .inl (kh1when, 10, .inl gh1when)), (h1who, .inl (kh1who, 10, .inl gh1who)), (h1secret, .inl (kh1secret, 10, .inl gh1secret)), (h1knew, .inl (kh1knew, 10, .inl gh1knew))] := hD
      refine lv_aload_n hx hb dX5_take_28 rfl (lv_at hl 1 rfl) ?_
      refine va_get (D := (dC, dI)) (ci := 5) (v := .ref h0who) (C := RX5) (T := TX5) (N := 5) hx hb hq inX5 hown hK hP 0 rfl rfl 2 (by decide) (hq _ qw_310) (fun _ h9 => h9) rfl dX5_take_29 ?_
      refine lv_iload_n hx hb dX5_take_32 rfl (lv_at hl 0 rfl) ?_
      refine lv_aload_n hx hb dX5_take_33 rfl (lv_at hl 2 rfl) ?_
      refine va_get (D := (dC, dI)) (ci := 5) (v := .ref h1who) (C := RX5) (T := TX5) (N := 5) hx hb hq inX5 hown hK hP 5 rfl rfl 2 (by decide) (hq _ qw_310) (fun _ h9 => h9) rfl dX5_take_34 ?_
      refine lv_iload_n hx hb dX5_take_37 rfl (lv_at hl 0 rfl) ?_
      refine va_iald hx hb hK hP 7 5 rfl rfl (bt_in b_169 (by decide)) dX5_take_38 ?_
      refine lv_topi (fun y_172 ey_172 => ?_)
      refine va_iast hx hb hK hP hD hS 2 1 rfl rfl (bt_in b_169 (by decide)) dX5_take_39 (fun H locs hP hD hS => ?_)
      obtain ⟨f_173, ef_173⟩ : ∃ f, f = upd f_102 (Int32.toNatClampNeg y_100) y_172 := ⟨_, rfl⟩
      rw [← ef_173] at hP hD
      have hP : va_P (dC, dI) classes [(h0, .inr (5, [.int h1_kept, .ref h0when, .ref h0who, .ref h0secret, .ref h0knew])), (h0when, .inl (kh0when, 10, .inl f_171)), (h0who, .inl (kh0who, 10, .inl f_173)), (h0secret, .inl (kh0secret, 10, .inl f_103)), (h0knew, .inl (kh0knew, 10, .inl f_104)), (h1, .inr (5, [.int h1_kept, .ref h1when, .ref h1who, .ref h1secret, .ref h1knew])), (h1when, .inl (kh1when, 10, .inl gh1when)), (h1who, .inl (kh1who, 10, .inl gh1who)), (h1secret, .inl (kh1secret, 10, .inl gh1secret)), (h1knew, .inl (kh1knew, 10, .inl gh1knew))] H := hP
      have hD : va_D A [(h0, .inr (5, [.int h1_kept, .ref h0when, .ref h0who, .ref h0secret, .ref h0knew])), (h0when, .inl (kh0when, 10, .inl f_171)), (h0who, .inl (kh0who, 10, .inl f_173)), (h0secret, .inl (kh0secret, 10, .inl f_103)), (h0knew, .inl (kh0knew, 10, .inl f_104)), (h1, .inr (5, [.int h1_kept, .ref h1when, .ref h1who, .ref h1secret, .ref h1knew])), (h1when, .inl (kh1when, 10, .inl gh1when)), (h1who, .inl (kh1who, 10, .inl gh1who)), (h1secret, .inl (kh1secret, 10, .inl gh1secret)), (h1knew, .inl (kh1knew, 10, .inl gh1knew))] := hD
      refine lv_aload_n hx hb dX5_take_40 rfl (lv_at hl 1 rfl) ?_
      refine va_get (D := (dC, dI)) (ci := 5) (v := .ref h0secret) (C := RX5) (T := TX5) (N := 5) hx hb hq inX5 hown hK hP 0 rfl rfl 3 (by decide) (hq _ qw_311) (fun _ h9 => h9) rfl dX5_take_41 ?_
      refine lv_iload_n hx hb dX5_take_44 rfl (lv_at hl 0 rfl) ?_
      refine lv_aload_n hx hb dX5_take_45 rfl (lv_at hl 2 rfl) ?_
      refine va_get (D := (dC, dI)) (ci := 5) (v := .ref h1secret) (C := RX5) (T := TX5) (N := 5) hx hb hq inX5 hown hK hP 5 rfl rfl 3 (by decide) (hq _ qw_311) (fun _ h9 => h9) rfl dX5_take_46 ?_
      refine lv_iload_n hx hb dX5_take_49 rfl (lv_at hl 0 rfl) ?_
      refine va_iald hx hb hK hP 8 6 rfl rfl (bt_in b_169 (by decide)) dX5_take_50 ?_
      refine lv_topi (fun y_174 ey_174 => ?_)
      refine va_iast hx hb hK hP hD hS 3 2 rfl rfl (bt_in b_169 (by decide)) dX5_take_51 (fun H locs hP hD hS => ?_)
      obtain ⟨f_175, ef_175⟩ : ∃ f, f = upd f_103 (Int32.toNatClampNeg y_100) y_174 := ⟨_, rfl⟩
      rw [← ef_175] at hP hD
      have hP : va_P (dC, dI) classes [(h0, .inr (5, [.int h1_kept, .ref h0when, .ref h0who, .ref h0secret, .ref h0knew])), (h0when, .inl (kh0when, 10, .inl f_171)), (h0who, .inl (kh0who, 10, .inl f_173)), (h0secret, .inl (kh0secret, 10, .inl f_175)), (h0knew, .inl (kh0knew, 10, .inl f_104)), (h1, .inr (5, [.int h1_kept, .ref h1when, .ref h1who, .ref h1secret, .ref h1knew])), (h1when, .inl (kh1when, 10, .inl gh1when)), (h1who, .inl (kh1who, 10, .inl gh1who)), (h1secret, .inl (kh1secret, 10, .inl gh1secret)), (h1knew, .inl (kh1knew, 10, .inl gh1knew))] H := hP
      have hD : va_D A [(h0, .inr (5, [.int h1_kept, .ref h0when, .ref h0who, .ref h0secret, .ref h0knew])), (h0when, .inl (kh0when, 10, .inl f_171)), (h0who, .inl (kh0who, 10, .inl f_173)), (h0secret, .inl (kh0secret, 10, .inl f_175)), (h0knew, .inl (kh0knew, 10, .inl f_104)), (h1, .inr (5, [.int h1_kept, .ref h1when, .ref h1who, .ref h1secret, .ref h1knew])), (h1when, .inl (kh1when, 10, .inl gh1when)), (h1who, .inl (kh1who, 10, .inl gh1who)), (h1secret, .inl (kh1secret, 10, .inl gh1secret)), (h1knew, .inl (kh1knew, 10, .inl gh1knew))] := hD
      refine lv_aload_n hx hb dX5_take_52 rfl (lv_at hl 1 rfl) ?_
      refine va_get (D := (dC, dI)) (ci := 5) (v := .ref h0knew) (C := RX5) (T := TX5) (N := 5) hx hb hq inX5 hown hK hP 0 rfl rfl 4 (by decide) (hq _ qw_312) (fun _ h9 => h9) rfl dX5_take_53 ?_
      refine lv_iload_n hx hb dX5_take_56 rfl (lv_at hl 0 rfl) ?_
      refine lv_aload_n hx hb dX5_take_57 rfl (lv_at hl 2 rfl) ?_
      refine va_get (D := (dC, dI)) (ci := 5) (v := .ref h1knew) (C := RX5) (T := TX5) (N := 5) hx hb hq inX5 hown hK hP 5 rfl rfl 4 (by decide) (hq _ qw_312) (fun _ h9 => h9) rfl dX5_take_58 ?_
      refine lv_iload_n hx hb dX5_take_61 rfl (lv_at hl 0 rfl) ?_
      refine va_iald hx hb hK hP 9 7 rfl rfl (bt_in b_169 (by decide)) dX5_take_62 ?_
      refine lv_topi (fun y_176 ey_176 => ?_)
      refine va_iast hx hb hK hP hD hS 4 3 rfl rfl (bt_in b_169 (by decide)) dX5_take_63 (fun H locs hP hD hS => ?_)
      obtain ⟨f_177, ef_177⟩ : ∃ f, f = upd f_104 (Int32.toNatClampNeg y_100) y_176 := ⟨_, rfl⟩
      rw [← ef_177] at hP hD
      have hP : va_P (dC, dI) classes [(h0, .inr (5, [.int h1_kept, .ref h0when, .ref h0who, .ref h0secret, .ref h0knew])), (h0when, .inl (kh0when, 10, .inl f_171)), (h0who, .inl (kh0who, 10, .inl f_173)), (h0secret, .inl (kh0secret, 10, .inl f_175)), (h0knew, .inl (kh0knew, 10, .inl f_177)), (h1, .inr (5, [.int h1_kept, .ref h1when, .ref h1who, .ref h1secret, .ref h1knew])), (h1when, .inl (kh1when, 10, .inl gh1when)), (h1who, .inl (kh1who, 10, .inl gh1who)), (h1secret, .inl (kh1secret, 10, .inl gh1secret)), (h1knew, .inl (kh1knew, 10, .inl gh1knew))] H := hP
      have hD : va_D A [(h0, .inr (5, [.int h1_kept, .ref h0when, .ref h0who, .ref h0secret, .ref h0knew])), (h0when, .inl (kh0when, 10, .inl f_171)), (h0who, .inl (kh0who, 10, .inl f_173)), (h0secret, .inl (kh0secret, 10, .inl f_175)), (h0knew, .inl (kh0knew, 10, .inl f_177)), (h1, .inr (5, [.int h1_kept, .ref h1when, .ref h1who, .ref h1secret, .ref h1knew])), (h1when, .inl (kh1when, 10, .inl gh1when)), (h1who, .inl (kh1who, 10, .inl gh1who)), (h1secret, .inl (kh1secret, 10, .inl gh1secret)), (h1knew, .inl (kh1knew, 10, .inl gh1knew))] := hD
      obtain ⟨y_178, ey_178⟩ : ∃ y : Int32, y = y_100 + 1 := ⟨_, rfl⟩
      refine lv_iinc (v := y_178) (lv' := [(2, .int y_178), (0, .ref h0), (1, .ref h1)]) hx hb dX5_take_64 hl (k := 0) rfl (by rw [ey_178]; rfl) (by decide) rfl (fun ls hl => ?_)
      refine lv_goto (tgt := 10) hx hb dX5_take_67 (by decide) ?_
      have b_179 : bt 1 10 y_178 := bt_add ey_178 b_169 (bt_k (x := 1) (c := 1) (by decide)) (by decide)
      exact ih10 _ _ _ ⟨y_178, f_171, f_173, f_175, f_177, _, (bt_w b_179 (by decide)), (ms_s ey_178 b_169 hm10 (by decide)), hP, hD, hS, hl, rfl⟩

set_option maxHeartbeats 4000000 in
set_option maxRecDepth 100000 in
/-- n_last -/
theorem n_last (l : Launch) (dC : Nat → ClassId) (dI : Nat → Nat → Nat) (sz : Nat) (h0 : Nat) (h0_kept : Int32) (h0when : Nat) (h0who : Nat) (h0secret : Nat) (h0knew : Nat) (kh0when : ClassId) (gh0when : Nat → Int32) : Met l yX5_last (.code yX5_last cX5_last 3 (some .int) :: wsA) ({ frames := 1, cells := 0, slots := 0, locals := 25 }) (va_Pc [.ref h0] (fun U => U.heap.size = sz ∧ va_P (dC, dI) classes [(h0, .inr (5, [.int h0_kept, .ref h0when, .ref h0who, .ref h0secret, .ref h0knew])), (h0when, .inl (kh0when, 10, .inl gh0when))] U.heap ∧ va_K (dC, dI) classes [(kh0when, .int)] U ∧ va_D (fun _ => True) [(h0, .inr (5, [.int h0_kept, .ref h0when, .ref h0who, .ref h0secret, .ref h0knew])), (h0when, .inl (kh0when, 10, .inl gh0when))] ∧ xE U)) (va_Qi (fun (r : Int32) (_ : Unit) => True) (fun _ t => va_P (dC, dI) classes [(h0, .inr (5, [.int h0_kept, .ref h0when, .ref h0who, .ref h0secret, .ref h0knew])), (h0when, .inl (kh0when, 10, .inl gh0when))] t.heap ∧ va_K (dC, dI) classes [(kh0when, .int)] t ∧ va_D (va_A [(h0, .inr (5, [.int h0_kept, .ref h0when, .ref h0who, .ref h0secret, .ref h0knew])), (h0when, .inl (kh0when, 10, .inl gh0when))] sz) [(h0, .inr (5, [.int h0_kept, .ref h0when, .ref h0who, .ref h0secret, .ref h0knew])), (h0when, .inl (kh0when, 10, .inl gh0when))]) (va_A [(h0, .inr (5, [.int h0_kept, .ref h0when, .ref h0who, .ref h0secret, .ref h0knew])), (h0when, .inl (kh0when, 10, .inl gh0when))] sz)) 0 0 (va_A [(h0, .inr (5, [.int h0_kept, .ref h0when, .ref h0who, .ref h0secret, .ref h0knew])), (h0when, .inl (kh0when, 10, .inl gh0when))] sz) := by
  refine Met.ofW (cc := cX5_last) (maxL := 3) (ret := (some .int)) (by decide) rfl ?_
  intro p e s m args below meth c s₁ B hml hv
  obtain ⟨rfl, hsz, hP, hK, hD0, hE⟩ := hv
  have hx := B.exec
  have hb := B.bytes
  have hr := B.returns
  have hts := atoms_spec (ws := .code yX5_last cX5_last 3 (some .int) :: wsA) B.pre
  have hq : ∀ w ∈ wsA, w.before _ s = true := fun w h => hts w (List.mem_cons_of_mem _ h)
  have hown : s.vm.findClass RX5 = some m.cls := findClass_of_methodNamed B.named
  have hlocks := B.notSynchronized
  subst hsz
  have hD := hD0.self (sz := s.heap.size)
  generalize hAe : va_A [(h0, .inr (5, [.int h0_kept, .ref h0when, .ref h0who, .ref h0secret, .ref h0knew])), (h0when, .inl (kh0when, 10, .inl gh0when))] s.heap.size = A at hD ⊢
  have hA : ∀ q : Nat, s.heap.size ≤ q → A q := fun q h => by rw [← hAe]; exact Or.inr h
  have hS : va_S A s.heap s.heap [] := va_S.rf
  have hl := lv_entry ([.ref h0]) (n := 3) (Nat.le_of_ble_eq_true rfl)
  rw [lg_entry_eq]
  generalize (lg_sl ([.ref h0]) ++ List.replicate (3 - (lg_sl ([.ref h0])).length) Slot.unset).toArray = ls at hl ⊢
  have hl : lv_has ls 3 [(0, .ref h0)] := hl
  refine lv_iconst (v := 0) hx hb dX5_last_0 (by decide) ?_
  refine lv_istore_n (lv' := [(1, .int 0), (0, .ref h0)]) hx hb dX5_last_1 rfl hl (by decide) rfl (fun ls hl => ?_)
  refine lv_iconst (v := 0) hx hb dX5_last_2 (by decide) ?_
  refine lv_istore_n (lv' := [(2, .int 0), (1, .int 0), (0, .ref h0)]) hx hb dX5_last_3 rfl hl (by decide) rfl (fun ls hl => ?_)
  refine W.loop (I := fun n H locs g => ∃ (y_50 : Int32) (y_51 : Int32) (ls : Array Slot), bt 0 10 y_50 ∧ 10 - y_50.toInt < (n : Int) ∧ va_P (dC, dI) classes [(h0, .inr (5, [.int h0_kept, .ref h0when, .ref h0who, .ref h0secret, .ref h0knew])), (h0when, .inl (kh0when, 10, .inl gh0when))] H ∧ va_D A [(h0, .inr (5, [.int h0_kept, .ref h0when, .ref h0who, .ref h0secret, .ref h0knew])), (h0when, .inl (kh0when, 10, .inl gh0when))] ∧ va_S A s.heap H locs ∧ lv_has ls 3 [(2, .int y_50), (1, .int y_51), (0, .ref h0)] ∧ g = F0 m 4 ls []) (fun H locs g h => ?_) (fun n ih4 H locs g h => ?_) (n := 11) ⟨0, 0, _, (bt_w (bt_k (x := 0) (c := 0) (by decide)) (by decide)), (ms_0 (bt_k (x := 0) (c := 0) (by decide)) (by decide)), hP, hD, hS, hl, rfl⟩
  · obtain ⟨y_50, y_51, ls, bd_v_2, hm, hP, hD, hS, hl, rfl⟩ := h
    exact ms_z bd_v_2 hm
  · obtain ⟨y_50, y_51, ls, bd_v_2, hm4, hP, hD, hS, hl, rfl⟩ := h
    refine lv_iload_n hx hb dX5_last_4 rfl (lv_at hl 0 rfl) ?_
    refine lv_aload_n hx hb dX5_last_5 rfl (lv_at hl 2 rfl) ?_
    refine va_get (D := (dC, dI)) (ci := 5) (v := .int h0_kept) (C := RX5) (T := TX5) (N := 5) hx hb hq inX5 hown hK hP 0 rfl rfl 0 (by decide) (hq _ qw_307) (fun _ h9 => h9) rfl dX5_last_6 ?_
    refine W.cut (I := fun H locs g => ∃ (ls : Array Slot), va_P (dC, dI) classes [(h0, .inr (5, [.int h0_kept, .ref h0when, .ref h0who, .ref h0secret, .ref h0knew])), (h0when, .inl (kh0when, 10, .inl gh0when))] H ∧ va_D A [(h0, .inr (5, [.int h0_kept, .ref h0when, .ref h0who, .ref h0secret, .ref h0knew])), (h0when, .inl (kh0when, 10, .inl gh0when))] ∧ va_S A s.heap H locs ∧ lv_has ls 3 [(1, .int y_51)] ∧ g = F0 m 35 ls []) (fun H locs g h => ?_) (fun hJ35 => ?_)
    · obtain ⟨ls, hP, hD, hS, hl, rfl⟩ := h
      refine lv_iload_n hx hb dX5_last_35 rfl (lv_at hl 0 rfl) ?_
      refine W.widen (k := 0) (n := 0) (Nat.le_of_ble_eq_true rfl) (Nat.le_of_ble_eq_true rfl) ?_
      exact W.iret (v := y_51) hx hb hr (fun t ht hW => ⟨⟨y_51, (), rfl, trivial, by rw [ht]; exact hP, va_K.moved hW.alike hK, hD⟩, hS.F ht⟩) hS.2.2 dX5_last_36
    refine lv_icmp_ge (tgt := 35) hx hb dX5_last_9 (by decide) (fun c_93 => ?_) (fun c_93 => ?_)
    · exact hJ35 _ _ _ ⟨_, hP, hD, hS, (lv_sub hl [1] rfl), rfl⟩
    · refine lv_iload_n hx hb dX5_last_12 rfl (lv_at hl 0 rfl) ?_
      refine lv_bipush (v := 10) hx hb dX5_last_13 (by decide) ?_
      refine lv_icmp_ge (tgt := 35) hx hb dX5_last_15 (by decide) (fun c_94 => ?_) (fun c_94 => ?_)
      · exact hJ35 _ _ _ ⟨_, hP, hD, hS, (lv_sub hl [1] rfl), rfl⟩
      · refine lv_iload_n hx hb dX5_last_18 rfl (lv_at hl 1 rfl) ?_
        refine lv_aload_n hx hb dX5_last_19 rfl (lv_at hl 2 rfl) ?_
        refine va_get (D := (dC, dI)) (ci := 5) (v := .ref h0when) (C := RX5) (T := TX5) (N := 5) hx hb hq inX5 hown hK hP 0 rfl rfl 1 (by decide) (hq _ qw_309) (fun _ h9 => h9) rfl dX5_last_20 ?_
        refine lv_iload_n hx hb dX5_last_23 rfl (lv_at hl 0 rfl) ?_
        have b_95 : bt 0 9 y_50 := rf_lt_l bd_v_2 (bt_k (x := 10) (c := 10) (by decide)) (Int32.not_le.mp c_94) (by decide)
        refine va_iald hx hb hK hP 1 0 rfl rfl (bt_in b_95 (by decide)) dX5_last_24 ?_
        refine lv_topi (fun y_96 ey_96 => ?_)
        refine va_mmax hx hb (by rw [hml]; exact hl.1.symm) hown (hq _ qw_976) (hq _ qw_977) (hq _ qw_132) (hq _ qw_978) (Nat.le_of_ble_eq_true rfl) (Nat.le_of_ble_eq_true rfl) (Nat.zero_le _) (Nat.zero_le _) dX5_last_25 ?_
        refine lv_topi (fun y_97 ey_97 => ?_)
        refine lv_istore_n (lv' := [(1, .int y_97), (2, .int y_50), (0, .ref h0)]) hx hb dX5_last_28 rfl hl (by decide) rfl (fun ls hl => ?_)
        obtain ⟨y_98, ey_98⟩ : ∃ y : Int32, y = y_50 + 1 := ⟨_, rfl⟩
        refine lv_iinc (v := y_98) (lv' := [(2, .int y_98), (1, .int y_97), (0, .ref h0)]) hx hb dX5_last_29 hl (k := 1) rfl (by rw [ey_98]; rfl) (by decide) rfl (fun ls hl => ?_)
        refine lv_goto (tgt := 4) hx hb dX5_last_32 (by decide) ?_
        have b_99 : bt 1 10 y_98 := bt_add ey_98 b_95 (bt_k (x := 1) (c := 1) (by decide)) (by decide)
        exact ih4 _ _ _ ⟨y_98, y_97, _, (bt_w b_99 (by decide)), (ms_s ey_98 b_95 hm4 (by decide)), hP, hD, hS, hl, rfl⟩

set_option maxHeartbeats 4000000 in
set_option maxRecDepth 100000 in
/-- n_hold -/
theorem n_hold (l : Launch) (dC : Nat → ClassId) (dI : Nat → Nat → Nat) (sz : Nat) (h0 : Nat) (h0_kept : Int32) (h0when : Nat) (h0who : Nat) (h0secret : Nat) (h0knew : Nat) (kh0when : ClassId) (gh0when : Nat → Int32) (kh0who : ClassId) (gh0who : Nat → Int32) (kh0secret : ClassId) (gh0secret : Nat → Int32) (kh0knew : ClassId) (gh0knew : Nat → Int32) (h1 : Nat) (h1_minute : Int32) (h1_offered : Int32) (h1_table : Int32) (h1_sitting : Int32) (h1_gullet : Int32) (h1_knows : Int64) (x0 : Int32) (x1 : Int32) : Met l yX5_hold (.code yX5_hold cX5_hold 6 (some .boolean) :: wsA) ({ frames := 1, cells := 0, slots := 0, locals := 21 }) (va_Pc [.ref h0, .ref h1, .int x0, .int x1] (fun U => U.heap.size = sz ∧ va_P (dC, dI) classes [(h0, .inr (5, [.int h0_kept, .ref h0when, .ref h0who, .ref h0secret, .ref h0knew])), (h0when, .inl (kh0when, 10, .inl gh0when)), (h0who, .inl (kh0who, 10, .inl gh0who)), (h0secret, .inl (kh0secret, 10, .inl gh0secret)), (h0knew, .inl (kh0knew, 10, .inl gh0knew)), (h1, .inr (3, [.int h1_minute, .int h1_offered, .int h1_table, .int h1_sitting, .int h1_gullet, .long h1_knows]))] U.heap ∧ va_K (dC, dI) classes [(kh0when, .int), (kh0who, .int), (kh0secret, .int), (kh0knew, .int)] U ∧ va_D (fun _ => True) [(h0, .inr (5, [.int h0_kept, .ref h0when, .ref h0who, .ref h0secret, .ref h0knew])), (h0when, .inl (kh0when, 10, .inl gh0when)), (h0who, .inl (kh0who, 10, .inl gh0who)), (h0secret, .inl (kh0secret, 10, .inl gh0secret)), (h0knew, .inl (kh0knew, 10, .inl gh0knew)), (h1, .inr (3, [.int h1_minute, .int h1_offered, .int h1_table, .int h1_sitting, .int h1_gullet, .long h1_knows]))] ∧ xE U)) (va_Qi (fun (r : Int32) (_ : Unit) => bt 0 1 r) (fun _ t => va_P (dC, dI) classes [(h0, .inr (5, [.int h0_kept, .ref h0when, .ref h0who, .ref h0secret, .ref h0knew])), (h0when, .inl (kh0when, 10, .inl gh0when)), (h0who, .inl (kh0who, 10, .inl gh0who)), (h0secret, .inl (kh0secret, 10, .inl gh0secret)), (h0knew, .inl (kh0knew, 10, .inl gh0knew)), (h1, .inr (3, [.int h1_minute, .int h1_offered, .int h1_table, .int h1_sitting, .int h1_gullet, .long h1_knows]))] t.heap ∧ va_K (dC, dI) classes [(kh0when, .int), (kh0who, .int), (kh0secret, .int), (kh0knew, .int)] t ∧ va_D (va_A [(h0, .inr (5, [.int h0_kept, .ref h0when, .ref h0who, .ref h0secret, .ref h0knew])), (h0when, .inl (kh0when, 10, .inl gh0when)), (h0who, .inl (kh0who, 10, .inl gh0who)), (h0secret, .inl (kh0secret, 10, .inl gh0secret)), (h0knew, .inl (kh0knew, 10, .inl gh0knew)), (h1, .inr (3, [.int h1_minute, .int h1_offered, .int h1_table, .int h1_sitting, .int h1_gullet, .long h1_knows]))] sz) [(h0, .inr (5, [.int h0_kept, .ref h0when, .ref h0who, .ref h0secret, .ref h0knew])), (h0when, .inl (kh0when, 10, .inl gh0when)), (h0who, .inl (kh0who, 10, .inl gh0who)), (h0secret, .inl (kh0secret, 10, .inl gh0secret)), (h0knew, .inl (kh0knew, 10, .inl gh0knew)), (h1, .inr (3, [.int h1_minute, .int h1_offered, .int h1_table, .int h1_sitting, .int h1_gullet, .long h1_knows]))]) (va_A [(h0, .inr (5, [.int h0_kept, .ref h0when, .ref h0who, .ref h0secret, .ref h0knew])), (h0when, .inl (kh0when, 10, .inl gh0when)), (h0who, .inl (kh0who, 10, .inl gh0who)), (h0secret, .inl (kh0secret, 10, .inl gh0secret)), (h0knew, .inl (kh0knew, 10, .inl gh0knew)), (h1, .inr (3, [.int h1_minute, .int h1_offered, .int h1_table, .int h1_sitting, .int h1_gullet, .long h1_knows]))] sz)) 0 0 (va_A [(h0, .inr (5, [.int h0_kept, .ref h0when, .ref h0who, .ref h0secret, .ref h0knew])), (h0when, .inl (kh0when, 10, .inl gh0when)), (h0who, .inl (kh0who, 10, .inl gh0who)), (h0secret, .inl (kh0secret, 10, .inl gh0secret)), (h0knew, .inl (kh0knew, 10, .inl gh0knew)), (h1, .inr (3, [.int h1_minute, .int h1_offered, .int h1_table, .int h1_sitting, .int h1_gullet, .long h1_knows]))] sz) := by
  refine Met.ofW (cc := cX5_hold) (maxL := 6) (ret := (some .boolean)) (by decide) rfl ?_
  intro p e s m args below meth c s₁ B hml hv
  obtain ⟨rfl, hsz, hP, hK, hD0, hE⟩ := hv
  have hx := B.exec
  have hb := B.bytes
  have hr := B.returns
  have hts := atoms_spec (ws := .code yX5_hold cX5_hold 6 (some .boolean) :: wsA) B.pre
  have hq : ∀ w ∈ wsA, w.before _ s = true := fun w h => hts w (List.mem_cons_of_mem _ h)
  have hown : s.vm.findClass RX5 = some m.cls := findClass_of_methodNamed B.named
  have hlocks := B.notSynchronized
  subst hsz
  have hD := hD0.self (sz := s.heap.size)
  generalize hAe : va_A [(h0, .inr (5, [.int h0_kept, .ref h0when, .ref h0who, .ref h0secret, .ref h0knew])), (h0when, .inl (kh0when, 10, .inl gh0when)), (h0who, .inl (kh0who, 10, .inl gh0who)), (h0secret, .inl (kh0secret, 10, .inl gh0secret)), (h0knew, .inl (kh0knew, 10, .inl gh0knew)), (h1, .inr (3, [.int h1_minute, .int h1_offered, .int h1_table, .int h1_sitting, .int h1_gullet, .long h1_knows]))] s.heap.size = A at hD ⊢
  have hA : ∀ q : Nat, s.heap.size ≤ q → A q := fun q h => by rw [← hAe]; exact Or.inr h
  have hS : va_S A s.heap s.heap [] := va_S.rf
  have hl := lv_entry ([.ref h0, .ref h1, .int x0, .int x1]) (n := 6) (Nat.le_of_ble_eq_true rfl)
  rw [lg_entry_eq]
  generalize (lg_sl ([.ref h0, .ref h1, .int x0, .int x1]) ++ List.replicate (6 - (lg_sl ([.ref h0, .ref h1, .int x0, .int x1])).length) Slot.unset).toArray = ls at hl ⊢
  have hl : lv_has ls 6 [(0, .ref h0), (1, .ref h1), (2, .int x0), (3, .int x1)] := hl
  refine lv_iconst (v := 0) hx hb dX5_hold_0 (by decide) ?_
  refine lv_istore (lv' := [(4, .int 0), (0, .ref h0), (1, .ref h1), (2, .int x0), (3, .int x1)]) hx hb dX5_hold_1 hl (by decide) rfl (fun ls hl => ?_)
  refine W.loop (I := fun n H locs g => ∃ (y_148 : Int32) (ls : Array Slot), bt 0 10 y_148 ∧ 10 - y_148.toInt < (n : Int) ∧ va_P (dC, dI) classes [(h0, .inr (5, [.int h0_kept, .ref h0when, .ref h0who, .ref h0secret, .ref h0knew])), (h0when, .inl (kh0when, 10, .inl gh0when)), (h0who, .inl (kh0who, 10, .inl gh0who)), (h0secret, .inl (kh0secret, 10, .inl gh0secret)), (h0knew, .inl (kh0knew, 10, .inl gh0knew)), (h1, .inr (3, [.int h1_minute, .int h1_offered, .int h1_table, .int h1_sitting, .int h1_gullet, .long h1_knows]))] H ∧ va_D A [(h0, .inr (5, [.int h0_kept, .ref h0when, .ref h0who, .ref h0secret, .ref h0knew])), (h0when, .inl (kh0when, 10, .inl gh0when)), (h0who, .inl (kh0who, 10, .inl gh0who)), (h0secret, .inl (kh0secret, 10, .inl gh0secret)), (h0knew, .inl (kh0knew, 10, .inl gh0knew)), (h1, .inr (3, [.int h1_minute, .int h1_offered, .int h1_table, .int h1_sitting, .int h1_gullet, .long h1_knows]))] ∧ va_S A s.heap H locs ∧ lv_has ls 6 [(4, .int y_148), (0, .ref h0), (1, .ref h1), (2, .int x0), (3, .int x1)] ∧ g = F0 m 3 ls []) (fun H locs g h => ?_) (fun n ih3 H locs g h => ?_) (n := 11) ⟨0, _, (bt_w (bt_k (x := 0) (c := 0) (by decide)) (by decide)), (ms_0 (bt_k (x := 0) (c := 0) (by decide)) (by decide)), hP, hD, hS, hl, rfl⟩
  · obtain ⟨y_148, ls, bd_v_4, hm, hP, hD, hS, hl, rfl⟩ := h
    exact ms_z bd_v_4 hm
  · obtain ⟨y_148, ls, bd_v_4, hm3, hP, hD, hS, hl, rfl⟩ := h
    refine lv_iload hx hb dX5_hold_3 (lv_at hl 0 rfl) ?_
    refine lv_aload_n hx hb dX5_hold_5 rfl (lv_at hl 1 rfl) ?_
    refine va_get (D := (dC, dI)) (ci := 5) (v := .int h0_kept) (C := RX5) (T := TX5) (N := 5) hx hb hq inX5 hown hK hP 0 rfl rfl 0 (by decide) (hq _ qw_307) (fun _ h9 => h9) rfl dX5_hold_6 ?_
    refine W.cut (I := fun H locs g => ∃ (ls : Array Slot), va_P (dC, dI) classes [(h0, .inr (5, [.int h0_kept, .ref h0when, .ref h0who, .ref h0secret, .ref h0knew])), (h0when, .inl (kh0when, 10, .inl gh0when)), (h0who, .inl (kh0who, 10, .inl gh0who)), (h0secret, .inl (kh0secret, 10, .inl gh0secret)), (h0knew, .inl (kh0knew, 10, .inl gh0knew)), (h1, .inr (3, [.int h1_minute, .int h1_offered, .int h1_table, .int h1_sitting, .int h1_gullet, .long h1_knows]))] H ∧ va_D A [(h0, .inr (5, [.int h0_kept, .ref h0when, .ref h0who, .ref h0secret, .ref h0knew])), (h0when, .inl (kh0when, 10, .inl gh0when)), (h0who, .inl (kh0who, 10, .inl gh0who)), (h0secret, .inl (kh0secret, 10, .inl gh0secret)), (h0knew, .inl (kh0knew, 10, .inl gh0knew)), (h1, .inr (3, [.int h1_minute, .int h1_offered, .int h1_table, .int h1_sitting, .int h1_gullet, .long h1_knows]))] ∧ va_S A s.heap H locs ∧ lv_has ls 6 [] ∧ g = F0 m 92 ls []) (fun H locs g h => ?_) (fun hJ92 => ?_)
    · obtain ⟨ls, hP, hD, hS, hl, rfl⟩ := h
      refine lv_iconst (v := 1) hx hb dX5_hold_92 (by decide) ?_
      refine W.widen (k := 0) (n := 0) (Nat.le_of_ble_eq_true rfl) (Nat.le_of_ble_eq_true rfl) ?_
      exact W.zret (v := 1) hx hb hr (by decide) (fun t ht hW => ⟨⟨1, (), rfl, (bt_w (bt_k (x := 1) (c := 1) (by decide)) (by decide)), by rw [ht]; exact hP, va_K.moved hW.alike hK, hD⟩, hS.F ht⟩) hS.2.2 dX5_hold_93
    refine lv_icmp_ge (tgt := 92) hx hb dX5_hold_9 (by decide) (fun c_267 => ?_) (fun c_267 => ?_)
    · exact hJ92 _ _ _ ⟨_, hP, hD, hS, (lv_sub hl [] rfl), rfl⟩
    · refine lv_iload hx hb dX5_hold_12 (lv_at hl 0 rfl) ?_
      refine lv_bipush (v := 10) hx hb dX5_hold_14 (by decide) ?_
      refine lv_icmp_ge (tgt := 92) hx hb dX5_hold_16 (by decide) (fun c_268 => ?_) (fun c_268 => ?_)
      · exact hJ92 _ _ _ ⟨_, hP, hD, hS, (lv_sub hl [] rfl), rfl⟩
      · refine lv_aload_n hx hb dX5_hold_19 rfl (lv_at hl 1 rfl) ?_
        refine va_get (D := (dC, dI)) (ci := 5) (v := .ref h0when) (C := RX5) (T := TX5) (N := 5) hx hb hq inX5 hown hK hP 0 rfl rfl 1 (by decide) (hq _ qw_309) (fun _ h9 => h9) rfl dX5_hold_20 ?_
        refine lv_iload hx hb dX5_hold_23 (lv_at hl 0 rfl) ?_
        have b_269 : bt 0 9 y_148 := rf_lt_l bd_v_4 (bt_k (x := 10) (c := 10) (by decide)) (Int32.not_le.mp c_268) (by decide)
        refine va_iald hx hb hK hP 1 0 rfl rfl (bt_in b_269 (by decide)) dX5_hold_25 ?_
        refine lv_topi (fun y_270 ey_270 => ?_)
        refine lv_iload_n hx hb dX5_hold_26 rfl (lv_at hl 3 rfl) ?_
        refine W.cut (I := fun H locs g => ∃ (y_274 : Int32) (ls : Array Slot), va_P (dC, dI) classes [(h0, .inr (5, [.int h0_kept, .ref h0when, .ref h0who, .ref h0secret, .ref h0knew])), (h0when, .inl (kh0when, 10, .inl gh0when)), (h0who, .inl (kh0who, 10, .inl gh0who)), (h0secret, .inl (kh0secret, 10, .inl gh0secret)), (h0knew, .inl (kh0knew, 10, .inl gh0knew)), (h1, .inr (3, [.int h1_minute, .int h1_offered, .int h1_table, .int h1_sitting, .int h1_gullet, .long h1_knows]))] H ∧ va_D A [(h0, .inr (5, [.int h0_kept, .ref h0when, .ref h0who, .ref h0secret, .ref h0knew])), (h0when, .inl (kh0when, 10, .inl gh0when)), (h0who, .inl (kh0who, 10, .inl gh0who)), (h0secret, .inl (kh0secret, 10, .inl gh0secret)), (h0knew, .inl (kh0knew, 10, .inl gh0knew)), (h1, .inr (3, [.int h1_minute, .int h1_offered, .int h1_table, .int h1_sitting, .int h1_gullet, .long h1_knows]))] ∧ va_S A s.heap H locs ∧ lv_has ls 6 [(4, .int y_148), (0, .ref h0), (1, .ref h1), (2, .int x0), (3, .int x1)] ∧ g = F0 m 46 ls [.int y_274]) (fun H locs g h => ?_) (fun hJ46 => ?_)
        · obtain ⟨y_274, ls, hP, hD, hS, hl, rfl⟩ := h
          refine lv_istore (lv' := [(5, .int y_274), (4, .int y_148), (0, .ref h0), (1, .ref h1), (2, .int x0), (3, .int x1)]) hx hb dX5_hold_46 hl (by decide) rfl (fun ls hl => ?_)
          refine lv_iload hx hb dX5_hold_48 (lv_at hl 0 rfl) ?_
          refine W.cut (I := fun H locs g => ∃ (ls : Array Slot), va_P (dC, dI) classes [(h0, .inr (5, [.int h0_kept, .ref h0when, .ref h0who, .ref h0secret, .ref h0knew])), (h0when, .inl (kh0when, 10, .inl gh0when)), (h0who, .inl (kh0who, 10, .inl gh0who)), (h0secret, .inl (kh0secret, 10, .inl gh0secret)), (h0knew, .inl (kh0knew, 10, .inl gh0knew)), (h1, .inr (3, [.int h1_minute, .int h1_offered, .int h1_table, .int h1_sitting, .int h1_gullet, .long h1_knows]))] H ∧ va_D A [(h0, .inr (5, [.int h0_kept, .ref h0when, .ref h0who, .ref h0secret, .ref h0knew])), (h0when, .inl (kh0when, 10, .inl gh0when)), (h0who, .inl (kh0who, 10, .inl gh0who)), (h0secret, .inl (kh0secret, 10, .inl gh0secret)), (h0knew, .inl (kh0knew, 10, .inl gh0knew)), (h1, .inr (3, [.int h1_minute, .int h1_offered, .int h1_table, .int h1_sitting, .int h1_gullet, .long h1_knows]))] ∧ va_S A s.heap H locs ∧ lv_has ls 6 [(4, .int y_148), (0, .ref h0), (1, .ref h1), (2, .int x0), (3, .int x1)] ∧ g = F0 m 86 ls []) (fun H locs g h => ?_) (fun hJ86 => ?_)
          · obtain ⟨ls, hP, hD, hS, hl, rfl⟩ := h
            obtain ⟨y_293, ey_293⟩ : ∃ y : Int32, y = y_148 + 1 := ⟨_, rfl⟩
            refine lv_iinc (v := y_293) (lv' := [(4, .int y_293), (0, .ref h0), (1, .ref h1), (2, .int x0), (3, .int x1)]) hx hb dX5_hold_86 hl (k := 0) rfl (by rw [ey_293]; rfl) (by decide) rfl (fun ls hl => ?_)
            refine lv_goto (tgt := 3) hx hb dX5_hold_89 (by decide) ?_
            have b_294 : bt 1 10 y_293 := bt_add ey_293 b_269 (bt_k (x := 1) (c := 1) (by decide)) (by decide)
            exact ih3 _ _ _ ⟨y_293, _, (bt_w b_294 (by decide)), (ms_s ey_293 b_269 hm3 (by decide)), hP, hD, hS, hl, rfl⟩
          refine lv_if_eq (tgt := 86) hx hb dX5_hold_50 (by decide) (fun c_295 => ?_) (fun c_295 => ?_)
          · exact hJ86 _ _ _ ⟨_, hP, hD, hS, (lv_sub hl [1, 2, 3, 4, 5] rfl), rfl⟩
          · refine lv_aload_n hx hb dX5_hold_53 rfl (lv_at hl 3 rfl) ?_
            refine lv_aload_n hx hb dX5_hold_54 rfl (lv_at hl 2 rfl) ?_
            refine va_get (D := (dC, dI)) (ci := 5) (v := .ref h0who) (C := RX5) (T := TX5) (N := 5) hx hb hq inX5 hown hK hP 0 rfl rfl 2 (by decide) (hq _ qw_310) (fun _ h9 => h9) rfl dX5_hold_55 ?_
            refine lv_iload hx hb dX5_hold_58 (lv_at hl 1 rfl) ?_
            refine va_iald hx hb hK hP 2 1 rfl rfl (bt_in b_269 (by decide)) dX5_hold_60 ?_
            refine lv_topi (fun y_296 ey_296 => ?_)
            have hPc := hP.sub (ws' := [(h1, .inr (3, [.int h1_minute, .int h1_offered, .int h1_table, .int h1_sitting, .int h1_gullet, .long h1_knows]))]) [5] rfl
            have hDc := hD.sub (ws' := [(h1, .inr (3, [.int h1_minute, .int h1_offered, .int h1_table, .int h1_sitting, .int h1_gullet, .long h1_knows]))]) [5] (by decide) rfl
            have hKc := hK.sub (tys' := []) [] rfl
            have hFc := va_free (wc := [(h1, .inr (3, [.int h1_minute, .int h1_offered, .int h1_table, .int h1_sitting, .int h1_gullet, .long h1_knows]))]) hD hS hA [5] rfl
            refine va_calli (va_runV (As := [.int y_296]) (rest := []) ⟨hx, hb, hml, hown, hq⟩ (e_knownBy l dC dI _ h1 h1_minute h1_offered h1_table h1_sitting h1_gullet h1_knows y_296 ) (cwV 1 hq (gV qw_983 qw_767 qw_768 qw_125 qw_769) rfl rfl rfl (by decide +kernel) ⟨Nat.le_of_ble_eq_true rfl, Nat.le_of_ble_eq_true rfl⟩) ⟨fun a U g mk q => by obtain ⟨q0, q1, qP, qK, qD, qE⟩ := q; exact ⟨q0, q1, qP, va_K.moved (u := U) (U := U.calling g mk a) (Vm.Alike.refl U.vm) qK, qD, xE.same rfl qE⟩, va_recv hKc hPc (ci := 3) (q0 := 0) rfl rfl, fun U hU hW => ⟨rfl, by rw [hU], by rw [hU]; exact hPc, va_K.moved hW.alike hKc, hDc.weaken (fun _ _ _ _ => trivial), xE.warm hW hE⟩⟩ rfl rfl hl.1 rfl (lv_room (Nat.le_of_ble_eq_true rfl)) dX5_hold_61 ⟨Nat.le_of_ble_eq_true rfl, Nat.le_of_ble_eq_true rfl⟩) hS (fun q _ h => hFc q h) hFc (fun r_297 u t H1 locs ht hvm hw hB hz1 hk1 hS => ?_)
            obtain ⟨hP1, hK1, hD1⟩ := hB
            rw [ht] at hP1
            obtain ⟨hP, hD⟩ := va_join (wr := [(h0, .inr (5, [.int h0_kept, .ref h0when, .ref h0who, .ref h0secret, .ref h0knew])), (h0when, .inl (kh0when, 10, .inl gh0when)), (h0who, .inl (kh0who, 10, .inl gh0who)), (h0secret, .inl (kh0secret, 10, .inl gh0secret)), (h0knew, .inl (kh0knew, 10, .inl gh0knew))]) (w1 := [(h1, .inr (3, [.int h1_minute, .int h1_offered, .int h1_table, .int h1_sitting, .int h1_gullet, .long h1_knows]))]) hP hD [5] [0, 1, 2, 3, 4] rfl rfl (by decide) (by decide) hk1 hFc hP1 hD1
            generalize H1 = H at hP hS ⊢
            have hP : va_P (dC, dI) classes [(h0, .inr (5, [.int h0_kept, .ref h0when, .ref h0who, .ref h0secret, .ref h0knew])), (h0when, .inl (kh0when, 10, .inl gh0when)), (h0who, .inl (kh0who, 10, .inl gh0who)), (h0secret, .inl (kh0secret, 10, .inl gh0secret)), (h0knew, .inl (kh0knew, 10, .inl gh0knew)), (h1, .inr (3, [.int h1_minute, .int h1_offered, .int h1_table, .int h1_sitting, .int h1_gullet, .long h1_knows]))] H := hP
            have hD : va_D A [(h0, .inr (5, [.int h0_kept, .ref h0when, .ref h0who, .ref h0secret, .ref h0knew])), (h0when, .inl (kh0when, 10, .inl gh0when)), (h0who, .inl (kh0who, 10, .inl gh0who)), (h0secret, .inl (kh0secret, 10, .inl gh0secret)), (h0knew, .inl (kh0knew, 10, .inl gh0knew)), (h1, .inr (3, [.int h1_minute, .int h1_offered, .int h1_table, .int h1_sitting, .int h1_gullet, .long h1_knows]))] := hD
            refine lv_aload_n hx hb dX5_hold_64 rfl (lv_at hl 2 rfl) ?_
            refine va_get (D := (dC, dI)) (ci := 5) (v := .ref h0secret) (C := RX5) (T := TX5) (N := 5) hx hb hq inX5 hown hK hP 0 rfl rfl 3 (by decide) (hq _ qw_311) (fun _ h9 => h9) rfl dX5_hold_65 ?_
            refine lv_iload hx hb dX5_hold_68 (lv_at hl 1 rfl) ?_
            refine va_iald hx hb hK hP 3 2 rfl rfl (bt_in b_269 (by decide)) dX5_hold_70 ?_
            refine lv_topi (fun y_298 ey_298 => ?_)
            refine lv_ishr hx hb dX5_hold_71 ?_
            refine lv_topi (fun y_299 ey_299 => ?_)
            refine lv_iconst (v := 1) hx hb dX5_hold_72 (by decide) ?_
            refine lv_iand hx hb dX5_hold_73 ?_
            refine lv_topi (fun y_300 ey_300 => ?_)
            refine lv_aload_n hx hb dX5_hold_74 rfl (lv_at hl 2 rfl) ?_
            refine va_get (D := (dC, dI)) (ci := 5) (v := .ref h0knew) (C := RX5) (T := TX5) (N := 5) hx hb hq inX5 hown hK hP 0 rfl rfl 4 (by decide) (hq _ qw_312) (fun _ h9 => h9) rfl dX5_hold_75 ?_
            refine lv_iload hx hb dX5_hold_78 (lv_at hl 1 rfl) ?_
            refine va_iald hx hb hK hP 4 3 rfl rfl (bt_in b_269 (by decide)) dX5_hold_80 ?_
            refine lv_topi (fun y_301 ey_301 => ?_)
            refine lv_icmp_eq (tgt := 86) hx hb dX5_hold_81 (by decide) (fun c_302 => ?_) (fun c_302 => ?_)
            · exact hJ86 _ _ _ ⟨_, hP, hD, hS, (lv_sub hl [1, 2, 3, 4, 5] rfl), rfl⟩
            · refine lv_iconst (v := 0) hx hb dX5_hold_84 (by decide) ?_
              refine W.widen (k := 0) (n := 0) (Nat.le_of_ble_eq_true rfl) (Nat.le_of_ble_eq_true rfl) ?_
              exact W.zret (v := 0) hx hb hr (by decide) (fun t ht hW => ⟨⟨0, (), rfl, (bt_w (bt_k (x := 0) (c := 0) (by decide)) (by decide)), by rw [ht]; exact hP, va_K.moved hW.alike hK, hD⟩, hS.F ht⟩) hS.2.2 dX5_hold_85
        refine W.cut (I := fun H locs g => ∃ (ls : Array Slot), va_P (dC, dI) classes [(h0, .inr (5, [.int h0_kept, .ref h0when, .ref h0who, .ref h0secret, .ref h0knew])), (h0when, .inl (kh0when, 10, .inl gh0when)), (h0who, .inl (kh0who, 10, .inl gh0who)), (h0secret, .inl (kh0secret, 10, .inl gh0secret)), (h0knew, .inl (kh0knew, 10, .inl gh0knew)), (h1, .inr (3, [.int h1_minute, .int h1_offered, .int h1_table, .int h1_sitting, .int h1_gullet, .long h1_knows]))] H ∧ va_D A [(h0, .inr (5, [.int h0_kept, .ref h0when, .ref h0who, .ref h0secret, .ref h0knew])), (h0when, .inl (kh0when, 10, .inl gh0when)), (h0who, .inl (kh0who, 10, .inl gh0who)), (h0secret, .inl (kh0secret, 10, .inl gh0secret)), (h0knew, .inl (kh0knew, 10, .inl gh0knew)), (h1, .inr (3, [.int h1_minute, .int h1_offered, .int h1_table, .int h1_sitting, .int h1_gullet, .long h1_knows]))] ∧ va_S A s.heap H locs ∧ lv_has ls 6 [(4, .int y_148), (0, .ref h0), (1, .ref h1), (2, .int x0), (3, .int x1)] ∧ g = F0 m 45 ls []) (fun H locs g h => ?_) (fun hJ45 => ?_)
        · obtain ⟨ls, hP, hD, hS, hl, rfl⟩ := h
          refine lv_iconst (v := 0) hx hb dX5_hold_45 (by decide) ?_
          exact hJ46 _ _ _ ⟨0, _, hP, hD, hS, hl, rfl⟩
        refine lv_icmp_lt (tgt := 45) hx hb dX5_hold_27 (by decide) (fun c_303 => ?_) (fun c_303 => ?_)
        · exact hJ45 _ _ _ ⟨_, hP, hD, hS, hl, rfl⟩
        · refine lv_aload_n hx hb dX5_hold_30 rfl (lv_at hl 1 rfl) ?_
          refine va_get (D := (dC, dI)) (ci := 5) (v := .ref h0when) (C := RX5) (T := TX5) (N := 5) hx hb hq inX5 hown hK hP 0 rfl rfl 1 (by decide) (hq _ qw_309) (fun _ h9 => h9) rfl dX5_hold_31 ?_
          refine lv_iload hx hb dX5_hold_34 (lv_at hl 0 rfl) ?_
          refine va_iald hx hb hK hP 1 0 rfl rfl (bt_in b_269 (by decide)) dX5_hold_36 ?_
          refine lv_topi (fun y_304 ey_304 => ?_)
          refine lv_iload_n hx hb dX5_hold_37 rfl (lv_at hl 4 rfl) ?_
          refine lv_icmp_gt (tgt := 45) hx hb dX5_hold_38 (by decide) (fun c_305 => ?_) (fun c_305 => ?_)
          · exact hJ45 _ _ _ ⟨_, hP, hD, hS, hl, rfl⟩
          · refine lv_iconst (v := 1) hx hb dX5_hold_41 (by decide) ?_
            refine lv_goto (tgt := 46) hx hb dX5_hold_42 (by decide) ?_
            exact hJ46 _ _ _ ⟨1, _, hP, hD, hS, hl, rfl⟩
