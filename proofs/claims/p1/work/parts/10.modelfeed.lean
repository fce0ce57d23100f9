theorem qw_39 : (.selects RX12 yX12_four yX12_four : Cond) ∈ wsA := mA (i := 39) (by decide +kernel) rfl
theorem qw_1295 : (.methodLink RX12 83 yX12_four : Cond) ∈ wsA := mA (i := 1295) (by decide +kernel) rfl
theorem qw_1297 : (.instanceMethod yX12_four : Cond) ∈ wsA := mA (i := 1297) (by decide +kernel) rfl
theorem qw_1298 : (.code yX12_four cX12_four 3 none : Cond) ∈ wsA := mA (i := 1298) (by decide +kernel) rfl
theorem dX12_feed_0 : decode cX12_feed 0 = .ok (.aload_n 0, 1) := by decide +kernel
theorem dX12_feed_1 : decode cX12_feed 1 = .ok (.getfield 80, 3) := by decide +kernel
theorem dX12_feed_4 : decode cX12_feed 4 = .ok (.bipush 20, 2) := by decide +kernel
theorem dX12_feed_6 : decode cX12_feed 6 = .ok (.iadd, 1) := by decide +kernel
theorem dX12_feed_7 : decode cX12_feed 7 = .ok (.sipush 400, 3) := by decide +kernel
theorem dX12_feed_10 : decode cX12_feed 10 = .ok (.if_icmp .le 5, 3) := by decide +kernel
theorem dX12_feed_15 : decode cX12_feed 15 = .ok (.aload_n 0, 1) := by decide +kernel
theorem dX12_feed_16 : decode cX12_feed 16 = .ok (.iload_n 1, 1) := by decide +kernel
theorem dX12_feed_17 : decode cX12_feed 17 = .ok (.invokevirtual 83, 3) := by decide +kernel
theorem dX12_feed_20 : decode cX12_feed 20 = .ok (.aload_n 0, 1) := by decide +kernel
theorem dX12_feed_21 : decode cX12_feed 21 = .ok (.iload_n 2, 1) := by decide +kernel
theorem dX12_feed_22 : decode cX12_feed 22 = .ok (.invokevirtual 83, 3) := by decide +kernel
theorem dX12_feed_25 : decode cX12_feed 25 = .ok (.aload_n 0, 1) := by decide +kernel
theorem dX12_feed_26 : decode cX12_feed 26 = .ok (.iload_n 3, 1) := by decide +kernel
theorem dX12_feed_27 : decode cX12_feed 27 = .ok (.invokevirtual 83, 3) := by decide +kernel
theorem dX12_feed_30 : decode cX12_feed 30 = .ok (.aload_n 0, 1) := by decide +kernel
theorem dX12_feed_31 : decode cX12_feed 31 = .ok (.iload 4, 2) := by decide +kernel
theorem dX12_feed_33 : decode cX12_feed 33 = .ok (.invokevirtual 83, 3) := by decide +kernel
theorem dX12_feed_36 : decode cX12_feed 36 = .ok (.aload_n 0, 1) := by decide +kernel
theorem dX12_feed_37 : decode cX12_feed 37 = .ok (.iload 5, 2) := by decide +kernel
theorem dX12_feed_39 : decode cX12_feed 39 = .ok (.invokevirtual 83, 3) := by decide +kernel
theorem dX12_feed_42 : decode cX12_feed 42 = .ok (.aload_n 0, 1) := by decide +kernel
theorem dX12_feed_43 : decode cX12_feed 43 = .ok (.getfield 80, 3) := by decide +kernel
theorem dX12_feed_46 : decode cX12_feed 46 = .ok (.ireturn, 1) := by decide +kernel
theorem dX12_four_0 : decode cX12_four 0 = .ok (.bipush 24, 2) := by decide +kernel
theorem dX12_four_2 : decode cX12_four 2 = .ok (.istore_n 2, 1) := by decide +kernel
theorem dX12_four_3 : decode cX12_four 3 = .ok (.iload_n 2, 1) := by decide +kernel
theorem dX12_four_4 : decode cX12_four 4 = .ok (.ifCond .lt 32, 3) := by decide +kernel
theorem dX12_four_7 : decode cX12_four 7 = .ok (.aload_n 0, 1) := by decide +kernel
theorem dX12_four_8 : decode cX12_four 8 = .ok (.getfield 7, 3) := by decide +kernel
theorem dX12_four_11 : decode cX12_four 11 = .ok (.aload_n 0, 1) := by decide +kernel
theorem dX12_four_12 : decode cX12_four 12 = .ok (.getfield 80, 3) := by decide +kernel
theorem dX12_four_15 : decode cX12_four 15 = .ok (.iload_n 1, 1) := by decide +kernel
theorem dX12_four_16 : decode cX12_four 16 = .ok (.iload_n 2, 1) := by decide +kernel
theorem dX12_four_17 : decode cX12_four 17 = .ok (.ishr, 1) := by decide +kernel
theorem dX12_four_18 : decode cX12_four 18 = .ok (.i2b, 1) := by decide +kernel
theorem dX12_four_19 : decode cX12_four 19 = .ok (.bastore, 1) := by decide +kernel
theorem dX12_four_20 : decode cX12_four 20 = .ok (.aload_n 0, 1) := by decide +kernel
theorem dX12_four_21 : decode cX12_four 21 = .ok (.dup, 1) := by decide +kernel
theorem dX12_four_22 : decode cX12_four 22 = .ok (.getfield 80, 3) := by decide +kernel
theorem dX12_four_25 : decode cX12_four 25 = .ok (.iconst 1, 1) := by decide +kernel
theorem dX12_four_26 : decode cX12_four 26 = .ok (.iadd, 1) := by decide +kernel
theorem dX12_four_27 : decode cX12_four 27 = .ok (.putfield 80, 3) := by decide +kernel
theorem dX12_four_30 : decode cX12_four 30 = .ok (.iinc 2 (-8), 3) := by decide +kernel
theorem dX12_four_33 : decode cX12_four 33 = .ok (.goto (-30), 3) := by decide +kernel
theorem dX12_four_36 : decode cX12_four 36 = .ok (.return_, 1) := by decide +kernel
set_option maxHeartbeats 4000000 in
set_option maxRecDepth 100000 in
/-- c_M_four_0 -/
theorem c_M_four_0 (l : Launch) (dC : Nat → ClassId) (dI : Nat → Nat → Nat) (sz : Nat) (h0 : Nat) (s0 : Nat) (s3 : Nat) (s4 : Nat) (s5 : Nat) (s6 : Nat) (s7 : Nat) (s15 : Nat) (s17 : Nat) (s19 : Nat) (s20 : Nat) (s27 : Nat) (s29 : Nat) (s30 : Nat) (s31 : Nat) (s35 : Nat) (s36 : Nat) (s37 : Nat) (s39 : Nat) (s40 : Nat) (s41 : Nat) (s42 : Nat) (k0 : ClassId) (g0 : Nat → Int32) (x0 : Int32) : Met l yX12_four (.code yX12_four cX12_four 3 none :: wsA) ({ frames := 0, cells := 0, slots := 0, locals := 0 }) (va_Pc [.ref h0, .int x0] (fun U => U.heap.size = sz ∧ va_P (dC, dI) classes [(h0, .inr (12, [.ref s0, .int 0, .int 0, .ref s3, .ref s4, .ref s5, .ref s6, .ref s7, .int 0, .int 0, .int 0, .int 0, .int 0, .int 0, .int 0, .ref s15, .int 0, .ref s17, .int 0, .ref s19, .ref s20, .int (-1), .int 0, .int 0, .int 0, .int 0, .int 0, .ref s27, .int 0, .ref s29, .ref s30, .ref s31, .int 0, .int 0, .int 0, .ref s35, .ref s36, .ref s37, .long 0, .ref s39, .ref s40, .ref s41, .ref s42])), (s0, .inl (k0, 400, .inl g0))] U.heap ∧ va_K (dC, dI) classes [(k0, .byte)] U ∧ va_D (fun _ => True) [(h0, .inr (12, [.ref s0, .int 0, .int 0, .ref s3, .ref s4, .ref s5, .ref s6, .ref s7, .int 0, .int 0, .int 0, .int 0, .int 0, .int 0, .int 0, .ref s15, .int 0, .ref s17, .int 0, .ref s19, .ref s20, .int (-1), .int 0, .int 0, .int 0, .int 0, .int 0, .ref s27, .int 0, .ref s29, .ref s30, .ref s31, .int 0, .int 0, .int 0, .ref s35, .ref s36, .ref s37, .long 0, .ref s39, .ref s40, .ref s41, .ref s42])), (s0, .inl (k0, 400, .inl g0))] ∧ xE U)) (va_Qv (fun (_ : Unit) => True) (fun _ t => ∃ (o_f_15 : Nat → Int32), va_P (dC, dI) classes [(h0, .inr (12, [.ref s0, .int 4, .int 0, .ref s3, .ref s4, .ref s5, .ref s6, .ref s7, .int 0, .int 0, .int 0, .int 0, .int 0, .int 0, .int 0, .ref s15, .int 0, .ref s17, .int 0, .ref s19, .ref s20, .int (-1), .int 0, .int 0, .int 0, .int 0, .int 0, .ref s27, .int 0, .ref s29, .ref s30, .ref s31, .int 0, .int 0, .int 0, .ref s35, .ref s36, .ref s37, .long 0, .ref s39, .ref s40, .ref s41, .ref s42])), (s0, .inl (k0, 400, .inl o_f_15))] t.heap ∧ va_K (dC, dI) classes [(k0, .byte)] t ∧ va_D (va_A [(h0, .inr (12, [.ref s0, .int 0, .int 0, .ref s3, .ref s4, .ref s5, .ref s6, .ref s7, .int 0, .int 0, .int 0, .int 0, .int 0, .int 0, .int 0, .ref s15, .int 0, .ref s17, .int 0, .ref s19, .ref s20, .int (-1), .int 0, .int 0, .int 0, .int 0, .int 0, .ref s27, .int 0, .ref s29, .ref s30, .ref s31, .int 0, .int 0, .int 0, .ref s35, .ref s36, .ref s37, .long 0, .ref s39, .ref s40, .ref s41, .ref s42])), (s0, .inl (k0, 400, .inl g0))] sz) [(h0, .inr (12, [.ref s0, .int 4, .int 0, .ref s3, .ref s4, .ref s5, .ref s6, .ref s7, .int 0, .int 0, .int 0, .int 0, .int 0, .int 0, .int 0, .ref s15, .int 0, .ref s17, .int 0, .ref s19, .ref s20, .int (-1), .int 0, .int 0, .int 0, .int 0, .int 0, .ref s27, .int 0, .ref s29, .ref s30, .ref s31, .int 0, .int 0, .int 0, .ref s35, .ref s36, .ref s37, .long 0, .ref s39, .ref s40, .ref s41, .ref s42])), (s0, .inl (k0, 400, .inl o_f_15))]) (va_A [(h0, .inr (12, [.ref s0, .int 0, .int 0, .ref s3, .ref s4, .ref s5, .ref s6, .ref s7, .int 0, .int 0, .int 0, .int 0, .int 0, .int 0, .int 0, .ref s15, .int 0, .ref s17, .int 0, .ref s19, .ref s20, .int (-1), .int 0, .int 0, .int 0, .int 0, .int 0, .ref s27, .int 0, .ref s29, .ref s30, .ref s31, .int 0, .int 0, .int 0, .ref s35, .ref s36, .ref s37, .long 0, .ref s39, .ref s40, .ref s41, .ref s42])), (s0, .inl (k0, 400, .inl g0))] sz)) 0 0 (va_A [(h0, .inr (12, [.ref s0, .int 0, .int 0, .ref s3, .ref s4, .ref s5, .ref s6, .ref s7, .int 0, .int 0, .int 0, .int 0, .int 0, .int 0, .int 0, .ref s15, .int 0, .ref s17, .int 0, .ref s19, .ref s20, .int (-1), .int 0, .int 0, .int 0, .int 0, .int 0, .ref s27, .int 0, .ref s29, .ref s30, .ref s31, .int 0, .int 0, .int 0, .ref s35, .ref s36, .ref s37, .long 0, .ref s39, .ref s40, .ref s41, .ref s42])), (s0, .inl (k0, 400, .inl g0))] sz) := by
  refine Met.ofW (cc := cX12_four) (maxL := 3) (ret := none) (by decide) rfl ?_
  intro p e s m args below meth c s₁ B hml hv
  obtain ⟨rfl, hsz, hP, hK, hD0, hE⟩ := hv
  have hx := B.exec
  have hb := B.bytes
  have hr := B.returns
  have hts := atoms_spec (ws := .code yX12_four cX12_four 3 none :: wsA) B.pre
  have hq : ∀ w ∈ wsA, w.before _ s = true := fun w h => hts w (List.mem_cons_of_mem _ h)
  have hown : s.vm.findClass RX12 = some m.cls := findClass_of_methodNamed B.named
  have hlocks := B.notSynchronized
  subst hsz
  have hD := hD0.self (sz := s.heap.size)
  generalize hAe : va_A [(h0, .inr (12, [.ref s0, .int 0, .int 0, .ref s3, .ref s4, .ref s5, .ref s6, .ref s7, .int 0, .int 0, .int 0, .int 0, .int 0, .int 0, .int 0, .ref s15, .int 0, .ref s17, .int 0, .ref s19, .ref s20, .int (-1), .int 0, .int 0, .int 0, .int 0, .int 0, .ref s27, .int 0, .ref s29, .ref s30, .ref s31, .int 0, .int 0, .int 0, .ref s35, .ref s36, .ref s37, .long 0, .ref s39, .ref s40, .ref s41, .ref s42])), (s0, .inl (k0, 400, .inl g0))] s.heap.size = A at hD ⊢
  have hA : ∀ q : Nat, s.heap.size ≤ q → A q := fun q h => by rw [← hAe]; exact Or.inr h
  have hS : va_S A s.heap s.heap [] := va_S.rf
  have hl := lv_entry ([.ref h0, .int x0]) (n := 3) (Nat.le_of_ble_eq_true rfl)
  rw [lg_entry_eq]
  generalize (lg_sl ([.ref h0, .int x0]) ++ List.replicate (3 - (lg_sl ([.ref h0, .int x0])).length) Slot.unset).toArray = ls at hl ⊢
  have hl : lv_has ls 3 [(0, .ref h0), (1, .int x0)] := hl
  refine lv_bipush (v := 24) hx hb dX12_four_0 (by decide) ?_
  refine lv_istore_n (lv' := [(2, .int 24), (0, .ref h0), (1, .int x0)]) hx hb dX12_four_2 rfl hl (by decide) rfl (fun ls hl => ?_)
  refine lv_iload_n hx hb dX12_four_3 rfl (lv_at hl 0 rfl) ?_
  refine lv_if_lt (tgt := 36) hx hb dX12_four_4 (by decide) (fun c9 => absurd c9 (by decide)) (fun _ => ?_)
  refine lv_aload_n hx hb dX12_four_7 rfl (lv_at hl 1 rfl) ?_
  refine va_get (D := (dC, dI)) (ci := 12) (v := .ref s0) (C := RX12) (T := TX12) (N := 43) hx hb hq inX12 hown hK hP 0 rfl rfl 0 (by decide) (hq _ qw_1160) (fun _ h9 => h9) rfl dX12_four_8 ?_
  refine lv_aload_n hx hb dX12_four_11 rfl (lv_at hl 1 rfl) ?_
  refine va_get (D := (dC, dI)) (ci := 12) (v := .int 0) (C := RX12) (T := TX12) (N := 43) hx hb hq inX12 hown hK hP 0 rfl rfl 1 (by decide) (hq _ qw_1161) (fun _ h9 => h9) rfl dX12_four_12 ?_
  refine lv_iload_n hx hb dX12_four_15 rfl (lv_at hl 2 rfl) ?_
  refine lv_iload_n hx hb dX12_four_16 rfl (lv_at hl 0 rfl) ?_
  refine lv_ishr hx hb dX12_four_17 ?_
  refine lv_topi (fun y_1 ey_1 => ?_)
  refine lv_i2b hx hb dX12_four_18 rfl ?_
  refine lv_topi (fun y_2 ey_2 => ?_)
  refine va_bast hx hb hK hP hD hS 1 0 rfl rfl (inr_ok rfl) dX12_four_19 (fun H locs hP hD hS => ?_)
  generalize upd g0 (Int32.toNatClampNeg 0) (vp_nar .byte y_2) = f_3 at hP hD
  have hP : va_P (dC, dI) classes [(h0, .inr (12, [.ref s0, .int 0, .int 0, .ref s3, .ref s4, .ref s5, .ref s6, .ref s7, .int 0, .int 0, .int 0, .int 0, .int 0, .int 0, .int 0, .ref s15, .int 0, .ref s17, .int 0, .ref s19, .ref s20, .int (-1), .int 0, .int 0, .int 0, .int 0, .int 0, .ref s27, .int 0, .ref s29, .ref s30, .ref s31, .int 0, .int 0, .int 0, .ref s35, .ref s36, .ref s37, .long 0, .ref s39, .ref s40, .ref s41, .ref s42])), (s0, .inl (k0, 400, .inl f_3))] H := hP
  have hD : va_D A [(h0, .inr (12, [.ref s0, .int 0, .int 0, .ref s3, .ref s4, .ref s5, .ref s6, .ref s7, .int 0, .int 0, .int 0, .int 0, .int 0, .int 0, .int 0, .ref s15, .int 0, .ref s17, .int 0, .ref s19, .ref s20, .int (-1), .int 0, .int 0, .int 0, .int 0, .int 0, .ref s27, .int 0, .ref s29, .ref s30, .ref s31, .int 0, .int 0, .int 0, .ref s35, .ref s36, .ref s37, .long 0, .ref s39, .ref s40, .ref s41, .ref s42])), (s0, .inl (k0, 400, .inl f_3))] := hD
  refine lv_aload_n hx hb dX12_four_20 rfl (lv_at hl 1 rfl) ?_
  refine lv_dup hx hb dX12_four_21 rfl ?_
  refine va_get (D := (dC, dI)) (ci := 12) (v := .int 0) (C := RX12) (T := TX12) (N := 43) hx hb hq inX12 hown hK hP 0 rfl rfl 1 (by decide) (hq _ qw_1161) (fun _ h9 => h9) rfl dX12_four_22 ?_
  refine lv_iconst (v := 1) hx hb dX12_four_25 (by decide) ?_
  refine lv_iadd hx hb dX12_four_26 ?_
  refine lv_topi (fun y_4 ey_4 => ?_)
  obtain rfl : y_4 = 1 := ey_4.trans (by decide)
  refine va_put (D := (dC, dI)) (ci := 12) (v := .int 1) (ty := .int) (C := RX12) (T := TX12) (N := 43) hx hb hq inX12 tyX12 tyX12_ok nmX12 hown hK hP hD hS 0 rfl rfl 1 (by decide) (hq _ qw_1161) (fun _ h9 => h9) rfl (by decide +kernel) rfl rfl (Nat.le_of_ble_eq_true rfl) dX12_four_27 (fun H locs hP hD hS => ?_)
  have hP : va_P (dC, dI) classes [(h0, .inr (12, [.ref s0, .int 1, .int 0, .ref s3, .ref s4, .ref s5, .ref s6, .ref s7, .int 0, .int 0, .int 0, .int 0, .int 0, .int 0, .int 0, .ref s15, .int 0, .ref s17, .int 0, .ref s19, .ref s20, .int (-1), .int 0, .int 0, .int 0, .int 0, .int 0, .ref s27, .int 0, .ref s29, .ref s30, .ref s31, .int 0, .int 0, .int 0, .ref s35, .ref s36, .ref s37, .long 0, .ref s39, .ref s40, .ref s41, .ref s42])), (s0, .inl (k0, 400, .inl f_3))] H := hP
  have hD : va_D A [(h0, .inr (12, [.ref s0, .int 1, .int 0, .ref s3, .ref s4, .ref s5, .ref s6, .ref s7, .int 0, .int 0, .int 0, .int 0, .int 0, .int 0, .int 0, .ref s15, .int 0, .ref s17, .int 0, .ref s19, .ref s20, .int (-1), .int 0, .int 0, .int 0, .int 0, .int 0, .ref s27, .int 0, .ref s29, .ref s30, .ref s31, .int 0, .int 0, .int 0, .ref s35, .ref s36, .ref s37, .long 0, .ref s39, .ref s40, .ref s41, .ref s42])), (s0, .inl (k0, 400, .inl f_3))] := hD
  refine lv_iinc (v := 16) (lv' := [(2, .int 16), (0, .ref h0), (1, .int x0)]) hx hb dX12_four_30 hl (k := 0) rfl (by decide) (by decide) rfl (fun ls hl => ?_)
  refine lv_goto (tgt := 3) hx hb dX12_four_33 (by decide) ?_
  refine lv_iload_n hx hb dX12_four_3 rfl (lv_at hl 0 rfl) ?_
  refine lv_if_lt (tgt := 36) hx hb dX12_four_4 (by decide) (fun c9 => absurd c9 (by decide)) (fun _ => ?_)
  refine lv_aload_n hx hb dX12_four_7 rfl (lv_at hl 1 rfl) ?_
  refine va_get (D := (dC, dI)) (ci := 12) (v := .ref s0) (C := RX12) (T := TX12) (N := 43) hx hb hq inX12 hown hK hP 0 rfl rfl 0 (by decide) (hq _ qw_1160) (fun _ h9 => h9) rfl dX12_four_8 ?_
  refine lv_aload_n hx hb dX12_four_11 rfl (lv_at hl 1 rfl) ?_
  refine va_get (D := (dC, dI)) (ci := 12) (v := .int 1) (C := RX12) (T := TX12) (N := 43) hx hb hq inX12 hown hK hP 0 rfl rfl 1 (by decide) (hq _ qw_1161) (fun _ h9 => h9) rfl dX12_four_12 ?_
  refine lv_iload_n hx hb dX12_four_15 rfl (lv_at hl 2 rfl) ?_
  refine lv_iload_n hx hb dX12_four_16 rfl (lv_at hl 0 rfl) ?_
  refine lv_ishr hx hb dX12_four_17 ?_
  refine lv_topi (fun y_5 ey_5 => ?_)
  refine lv_i2b hx hb dX12_four_18 rfl ?_
  refine lv_topi (fun y_6 ey_6 => ?_)
  refine va_bast hx hb hK hP hD hS 1 0 rfl rfl (inr_ok rfl) dX12_four_19 (fun H locs hP hD hS => ?_)
  generalize upd f_3 (Int32.toNatClampNeg 1) (vp_nar .byte y_6) = f_7 at hP hD
  have hP : va_P (dC, dI) classes [(h0, .inr (12, [.ref s0, .int 1, .int 0, .ref s3, .ref s4, .ref s5, .ref s6, .ref s7, .int 0, .int 0, .int 0, .int 0, .int 0, .int 0, .int 0, .ref s15, .int 0, .ref s17, .int 0, .ref s19, .ref s20, .int (-1), .int 0, .int 0, .int 0, .int 0, .int 0, .ref s27, .int 0, .ref s29, .ref s30, .ref s31, .int 0, .int 0, .int 0, .ref s35, .ref s36, .ref s37, .long 0, .ref s39, .ref s40, .ref s41, .ref s42])), (s0, .inl (k0, 400, .inl f_7))] H := hP
  have hD : va_D A [(h0, .inr (12, [.ref s0, .int 1, .int 0, .ref s3, .ref s4, .ref s5, .ref s6, .ref s7, .int 0, .int 0, .int 0, .int 0, .int 0, .int 0, .int 0, .ref s15, .int 0, .ref s17, .int 0, .ref s19, .ref s20, .int (-1), .int 0, .int 0, .int 0, .int 0, .int 0, .ref s27, .int 0, .ref s29, .ref s30, .ref s31, .int 0, .int 0, .int 0, .ref s35, .ref s36, .ref s37, .long 0, .ref s39, .ref s40, .ref s41, .ref s42])), (s0, .inl (k0, 400, .inl f_7))] := hD
  refine lv_aload_n hx hb dX12_four_20 rfl (lv_at hl 1 rfl) ?_
  refine lv_dup hx hb dX12_four_21 rfl ?_
  refine va_get (D := (dC, dI)) (ci := 12) (v := .int 1) (C := RX12) (T := TX12) (N := 43) hx hb hq inX12 hown hK hP 0 rfl rfl 1 (by decide) (hq _ qw_1161) (fun _ h9 => h9) rfl dX12_four_22 ?_
  refine lv_iconst (v := 1) hx hb dX12_four_25 (by decide) ?_
  refine lv_iadd hx hb dX12_four_26 ?_
  refine lv_topi (fun y_8 ey_8 => ?_)
  obtain rfl : y_8 = 2 := ey_8.trans (by decide)
  refine va_put (D := (dC, dI)) (ci := 12) (v := .int 2) (ty := .int) (C := RX12) (T := TX12) (N := 43) hx hb hq inX12 tyX12 tyX12_ok nmX12 hown hK hP hD hS 0 rfl rfl 1 (by decide) (hq _ qw_1161) (fun _ h9 => h9) rfl (by decide +kernel) rfl rfl (Nat.le_of_ble_eq_true rfl) dX12_four_27 (fun H locs hP hD hS => ?_)
  have hP : va_P (dC, dI) classes [(h0, .inr (12, [.ref s0, .int 2, .int 0, .ref s3, .ref s4, .ref s5, .ref s6, .ref s7, .int 0, .int 0, .int 0, .int 0, .int 0, .int 0, .int 0, .ref s15, .int 0, .ref s17, .int 0, .ref s19, .ref s20, .int (-1), .int 0, .int 0, .int 0, .int 0, .int 0, .ref s27, .int 0, .ref s29, .ref s30, .ref s31, .int 0, .int 0, .int 0, .ref s35, .ref s36, .ref s37, .long 0, .ref s39, .ref s40, .ref s41, .ref s42])), (s0, .inl (k0, 400, .inl f_7))] H := hP
  have hD : va_D A [(h0, .inr (12, [.ref s0, .int 2, .int 0, .ref s3, .ref s4, .ref s5, .ref s6, .ref s7, .int 0, .int 0, .int 0, .int 0, .int 0, .int 0, .int 0, .ref s15, .int 0, .ref s17, .int 0, .ref s19, .ref s20, .int (-1), .int 0, .int 0, .int 0, .int 0, .int 0, .ref s27, .int 0, .ref s29, .ref s30, .ref s31, .int 0, .int 0, .int 0, .ref s35, .ref s36, .ref s37, .long 0, .ref s39, .ref s40, .ref s41, .ref s42])), (s0, .inl (k0, 400, .inl f_7))] := hD
  refine lv_iinc (v := 8) (lv' := [(2, .int 8), (0, .ref h0), (1, .int x0)]) hx hb dX12_four_30 hl (k := 0) rfl (by decide) (by decide) rfl (fun ls hl => ?_)
  refine lv_goto (tgt := 3) hx hb dX12_four_33 (by decide) ?_
  refine lv_iload_n hx hb dX12_four_3 rfl (lv_at hl 0 rfl) ?_
  refine lv_if_lt (tgt := 36) hx hb dX12_four_4 (by decide) (fun c9 => absurd c9 (by decide)) (fun _ => ?_)
  refine lv_aload_n hx hb dX12_four_7 rfl (lv_at hl 1 rfl) ?_
  refine va_get (D := (dC, dI)) (ci := 12) (v := .ref s0) (C := RX12) (T := TX12) (N := 43) hx hb hq inX12 hown hK hP 0 rfl rfl 0 (by decide) (hq _ qw_1160) (fun _ h9 => h9) rfl dX12_four_8 ?_
  refine lv_aload_n hx hb dX12_four_11 rfl (lv_at hl 1 rfl) ?_
  refine va_get (D := (dC, dI)) (ci := 12) (v := .int 2) (C := RX12) (T := TX12) (N := 43) hx hb hq inX12 hown hK hP 0 rfl rfl 1 (by decide) (hq _ qw_1161) (fun _ h9 => h9) rfl dX12_four_12 ?_
  refine lv_iload_n hx hb dX12_four_15 rfl (lv_at hl 2 rfl) ?_
  refine lv_iload_n hx hb dX12_four_16 rfl (lv_at hl 0 rfl) ?_
  refine lv_ishr hx hb dX12_four_17 ?_
  refine lv_topi (fun y_9 ey_9 => ?_)
  refine lv_i2b hx hb dX12_four_18 rfl ?_
  refine lv_topi (fun y_10 ey_10 => ?_)
  refine va_bast hx hb hK hP hD hS 1 0 rfl rfl (inr_ok rfl) dX12_four_19 (fun H locs hP hD hS => ?_)
  generalize upd f_7 (Int32.toNatClampNeg 2) (vp_nar .byte y_10) = f_11 at hP hD
  have hP : va_P (dC, dI) classes [(h0, .inr (12, [.ref s0, .int 2, .int 0, .ref s3, .ref s4, .ref s5, .ref s6, .ref s7, .int 0, .int 0, .int 0, .int 0, .int 0, .int 0, .int 0, .ref s15, .int 0, .ref s17, .int 0, .ref s19, .ref s20, .int (-1), .int 0, .int 0, .int 0, .int 0, .int 0, .ref s27, .int 0, .ref s29, .ref s30, .ref s31, .int 0, .int 0, .int 0, .ref s35, .ref s36, .ref s37, .long 0, .ref s39, .ref s40, .ref s41, .ref s42])), (s0, .inl (k0, 400, .inl f_11))] H := hP
  have hD : va_D A [(h0, .inr (12, [.ref s0, .int 2, .int 0, .ref s3, .ref s4, .ref s5, .ref s6, .ref s7, .int 0, .int 0, .int 0, .int 0, .int 0, .int 0, .int 0, .ref s15, .int 0, .ref s17, .int 0, .ref s19, .ref s20, .int (-1), .int 0, .int 0, .int 0, .int 0, .int 0, .ref s27, .int 0, .ref s29, .ref s30, .ref s31, .int 0, .int 0, .int 0, .ref s35, .ref s36, .ref s37, .long 0, .ref s39, .ref s40, .ref s41, .ref s42])), (s0, .inl (k0, 400, .inl f_11))] := hD
  refine lv_aload_n hx hb dX12_four_20 rfl (lv_at hl 1 rfl) ?_
  refine lv_dup hx hb dX12_four_21 rfl ?_
  refine va_get (D := (dC, dI)) (ci := 12) (v := .int 2) (C := RX12) (T := TX12) (N := 43) hx hb hq inX12 hown hK hP 0 rfl rfl 1 (by decide) (hq _ qw_1161) (fun _ h9 => h9) rfl dX12_four_22 ?_
  refine lv_iconst (v := 1) hx hb dX12_four_25 (by decide) ?_
  refine lv_iadd hx hb dX12_four_26 ?_
  refine lv_topi (fun y_12 ey_12 => ?_)
  obtain rfl : y_12 = 3 := ey_12.trans (by decide)
  refine va_put (D := (dC, dI)) (ci := 12) (v := .int 3) (ty := .int) (C := RX12) (T := TX12) (N := 43) hx hb hq inX12 tyX12 tyX12_ok nmX12 hown hK hP hD hS 0 rfl rfl 1 (by decide) (hq _ qw_1161) (fun _ h9 => h9) rfl (by decide +kernel) rfl rfl (Nat.le_of_ble_eq_true rfl) dX12_four_27 (fun H locs hP hD hS => ?_)
  have hP : va_P (dC, dI) classes [(h0, .inr (12, [.ref s0, .int 3, .int 0, .ref s3, .ref s4, .ref s5, .ref s6, .ref s7, .int 0, .int 0, .int 0, .int 0, .int 0, .int 0, .int 0, .ref s15, .int 0, .ref s17, .int 0, .ref s19, .ref s20, .int (-1), .int 0, .int 0, .int 0, .int 0, .int 0, .ref s27, .int 0, .ref s29, .ref s30, .ref s31, .int 0, .int 0, .int 0, .ref s35, .ref s36, .ref s37, .long 0, .ref s39, .ref s40, .ref s41, .ref s42])), (s0, .inl (k0, 400, .inl f_11))] H := hP
  have hD : va_D A [(h0, .inr (12, [.ref s0, .int 3, .int 0, .ref s3, .ref s4, .ref s5, .ref s6, .ref s7, .int 0, .int 0, .int 0, .int 0, .int 0, .int 0, .int 0, .ref s15, .int 0, .ref s17, .int 0, .ref s19, .ref s20, .int (-1), .int 0, .int 0, .int 0, .int 0, .int 0, .ref s27, .int 0, .ref s29, .ref s30, .ref s31, .int 0, .int 0, .int 0, .ref s35, .ref s36, .ref s37, .long 0, .ref s39, .ref s40, .ref s41, .ref s42])), (s0, .inl (k0, 400, .inl f_11))] := hD
  refine lv_iinc (v := 0) (lv' := [(2, .int 0), (0, .ref h0), (1, .int x0)]) hx hb dX12_four_30 hl (k := 0) rfl (by decide) (by decide) rfl (fun ls hl => ?_)
  refine lv_goto (tgt := 3) hx hb dX12_four_33 (by decide) ?_
  refine lv_iload_n hx hb dX12_four_3 rfl (lv_at hl 0 rfl) ?_
  refine lv_if_lt (tgt := 36) hx hb dX12_four_4 (by decide) (fun c9 => absurd c9 (by decide)) (fun _ => ?_)
  refine lv_aload_n hx hb dX12_four_7 rfl (lv_at hl 1 rfl) ?_
  refine va_get (D := (dC, dI)) (ci := 12) (v := .ref s0) (C := RX12) (T := TX12) (N := 43) hx hb hq inX12 hown hK hP 0 rfl rfl 0 (by decide) (hq _ qw_1160) (fun _ h9 => h9) rfl dX12_four_8 ?_
  refine lv_aload_n hx hb dX12_four_11 rfl (lv_at hl 1 rfl) ?_
  refine va_get (D := (dC, dI)) (ci := 12) (v := .int 3) (C := RX12) (T := TX12) (N := 43) hx hb hq inX12 hown hK hP 0 rfl rfl 1 (by decide) (hq _ qw_1161) (fun _ h9 => h9) rfl dX12_four_12 ?_
  refine lv_iload_n hx hb dX12_four_15 rfl (lv_at hl 2 rfl) ?_
  refine lv_iload_n hx hb dX12_four_16 rfl (lv_at hl 0 rfl) ?_
  refine lv_ishr hx hb dX12_four_17 ?_
  refine lv_topi (fun y_13 ey_13 => ?_)
  refine lv_i2b hx hb dX12_four_18 rfl ?_
  refine lv_topi (fun y_14 ey_14 => ?_)
  refine va_bast hx hb hK hP hD hS 1 0 rfl rfl (inr_ok rfl) dX12_four_19 (fun H locs hP hD hS => ?_)
  generalize upd f_11 (Int32.toNatClampNeg 3) (vp_nar .byte y_14) = f_15 at hP hD
  have hP : va_P (dC, dI) classes [(h0, .inr (12, [.ref s0, .int 3, .int 0, .ref s3, .ref s4, .ref s5, .ref s6, .ref s7, .int 0, .int 0, .int 0, .int 0, .int 0, .int 0, .int 0, .ref s15, .int 0, .ref s17, .int 0, .ref s19, .ref s20, .int (-1), .int 0, .int 0, .int 0, .int 0, .int 0, .ref s27, .int 0, .ref s29, .ref s30, .ref s31, .int 0, .int 0, .int 0, .ref s35, .ref s36, .ref s37, .long 0, .ref s39, .ref s40, .ref s41, .ref s42])), (s0, .inl (k0, 400, .inl f_15))] H := hP
  have hD : va_D A [(h0, .inr (12, [.ref s0, .int 3, .int 0, .ref s3, .ref s4, .ref s5, .ref s6, .ref s7, .int 0, .int 0, .int 0, .int 0, .int 0, .int 0, .int 0, .ref s15, .int 0, .ref s17, .int 0, .ref s19, .ref s20, .int (-1), .int 0, .int 0, .int 0, .int 0, .int 0, .ref s27, .int 0, .ref s29, .ref s30, .ref s31, .int 0, .int 0, .int 0, .ref s35, .ref s36, .ref s37, .long 0, .ref s39, .ref s40, .ref s41, .ref s42])), (s0, .inl (k0, 400, .inl f_15))] := hD
  refine lv_aload_n hx hb dX12_four_20 rfl (lv_at hl 1 rfl) ?_
  refine lv_dup hx hb dX12_four_21 rfl ?_
  refine va_get (D := (dC, dI)) (ci := 12) (v := .int 3) (C := RX12) (T := TX12) (N := 43) hx hb hq inX12 hown hK hP 0 rfl rfl 1 (by decide) (hq _ qw_1161) (fun _ h9 => h9) rfl dX12_four_22 ?_
  refine lv_iconst (v := 1) hx hb dX12_four_25 (by decide) ?_
  refine lv_iadd hx hb dX12_four_26 ?_
  refine lv_topi (fun y_16 ey_16 => ?_)
  obtain rfl : y_16 = 4 := ey_16.trans (by decide)
  refine va_put (D := (dC, dI)) (ci := 12) (v := .int 4) (ty := .int) (C := RX12) (T := TX12) (N := 43) hx hb hq inX12 tyX12 tyX12_ok nmX12 hown hK hP hD hS 0 rfl rfl 1 (by decide) (hq _ qw_1161) (fun _ h9 => h9) rfl (by decide +kernel) rfl rfl (Nat.le_of_ble_eq_true rfl) dX12_four_27 (fun H locs hP hD hS => ?_)
  have hP : va_P (dC, dI) classes [(h0, .inr (12, [.ref s0, .int 4, .int 0, .ref s3, .ref s4, .ref s5, .ref s6, .ref s7, .int 0, .int 0, .int 0, .int 0, .int 0, .int 0, .int 0, .ref s15, .int 0, .ref s17, .int 0, .ref s19, .ref s20, .int (-1), .int 0, .int 0, .int 0, .int 0, .int 0, .ref s27, .int 0, .ref s29, .ref s30, .ref s31, .int 0, .int 0, .int 0, .ref s35, .ref s36, .ref s37, .long 0, .ref s39, .ref s40, .ref s41, .ref s42])), (s0, .inl (k0, 400, .inl f_15))] H := hP
  have hD : va_D A [(h0, .inr (12, [.ref s0, .int 4, .int 0, .ref s3, .ref s4, .ref s5, .ref s6, .ref s7, .int 0, .int 0, .int 0, .int 0, .int 0, .int 0, .int 0, .ref s15, .int 0, .ref s17, .int 0, .ref s19, .ref s20, .int (-1), .int 0, .int 0, .int 0, .int 0, .int 0, .ref s27, .int 0, .ref s29, .ref s30, .ref s31, .int 0, .int 0, .int 0, .ref s35, .ref s36, .ref s37, .long 0, .ref s39, .ref s40, .ref s41, .ref s42])), (s0, .inl (k0, 400, .inl f_15))] := hD
  refine lv_iinc (v := (-8)) (lv' := [(2, .int (-8)), (0, .ref h0), (1, .int x0)]) hx hb dX12_four_30 hl (k := 0) rfl (by decide) (by decide) rfl (fun ls hl => ?_)
  refine lv_goto (tgt := 3) hx hb dX12_four_33 (by decide) ?_
  refine lv_iload_n hx hb dX12_four_3 rfl (lv_at hl 0 rfl) ?_
  refine lv_if_lt (tgt := 36) hx hb dX12_four_4 (by decide) (fun _ => ?_) (fun c9 => absurd c9 (by decide))
  have hP9 := hP.sub (ws' := [(h0, .inr (12, [.ref s0, .int 4, .int 0, .ref s3, .ref s4, .ref s5, .ref s6, .ref s7, .int 0, .int 0, .int 0, .int 0, .int 0, .int 0, .int 0, .ref s15, .int 0, .ref s17, .int 0, .ref s19, .ref s20, .int (-1), .int 0, .int 0, .int 0, .int 0, .int 0, .ref s27, .int 0, .ref s29, .ref s30, .ref s31, .int 0, .int 0, .int 0, .ref s35, .ref s36, .ref s37, .long 0, .ref s39, .ref s40, .ref s41, .ref s42])), (s0, .inl (k0, 400, .inl f_15))]) [0, 1] rfl
  have hD9 := hD.sub (ws' := [(h0, .inr (12, [.ref s0, .int 4, .int 0, .ref s3, .ref s4, .ref s5, .ref s6, .ref s7, .int 0, .int 0, .int 0, .int 0, .int 0, .int 0, .int 0, .ref s15, .int 0, .ref s17, .int 0, .ref s19, .ref s20, .int (-1), .int 0, .int 0, .int 0, .int 0, .int 0, .ref s27, .int 0, .ref s29, .ref s30, .ref s31, .int 0, .int 0, .int 0, .ref s35, .ref s36, .ref s37, .long 0, .ref s39, .ref s40, .ref s41, .ref s42])), (s0, .inl (k0, 400, .inl f_15))]) [0, 1] (by decide) rfl
  have hK9 := hK.sub (tys' := [(k0, .byte)]) [0] rfl
  refine W.widen (k := 0) (n := 0) (Nat.le_of_ble_eq_true rfl) (Nat.le_of_ble_eq_true rfl) ?_
  exact W.vret hx hb hr (fun t ht hW => ⟨⟨(), rfl, trivial, f_15, by rw [ht]; exact hP9, va_K.moved hW.alike hK9, hD9⟩, hS.F ht⟩) hS.2.2 dX12_four_36

set_option maxHeartbeats 4000000 in
set_option maxRecDepth 100000 in
/-- c_M_four_4 -/
theorem c_M_four_4 (l : Launch) (dC : Nat → ClassId) (dI : Nat → Nat → Nat) (sz : Nat) (h0 : Nat) (s0 : Nat) (s3 : Nat) (s4 : Nat) (s5 : Nat) (s6 : Nat) (s7 : Nat) (s15 : Nat) (s17 : Nat) (s19 : Nat) (s20 : Nat) (s27 : Nat) (s29 : Nat) (s30 : Nat) (s31 : Nat) (s35 : Nat) (s36 : Nat) (s37 : Nat) (s39 : Nat) (s40 : Nat) (s41 : Nat) (s42 : Nat) (k0 : ClassId) (g0 : Nat → Int32) (x0 : Int32) : Met l yX12_four (.code yX12_four cX12_four 3 none :: wsA) ({ frames := 0, cells := 0, slots := 0, locals := 0 }) (va_Pc [.ref h0, .int x0] (fun U => U.heap.size = sz ∧ va_P (dC, dI) classes [(h0, .inr (12, [.ref s0, .int 4, .int 0, .ref s3, .ref s4, .ref s5, .ref s6, .ref s7, .int 0, .int 0, .int 0, .int 0, .int 0, .int 0, .int 0, .ref s15, .int 0, .ref s17, .int 0, .ref s19, .ref s20, .int (-1), .int 0, .int 0, .int 0, .int 0, .int 0, .ref s27, .int 0, .ref s29, .ref s30, .ref s31, .int 0, .int 0, .int 0, .ref s35, .ref s36, .ref s37, .long 0, .ref s39, .ref s40, .ref s41, .ref s42])), (s0, .inl (k0, 400, .inl g0))] U.heap ∧ va_K (dC, dI) classes [(k0, .byte)] U ∧ va_D (fun _ => True) [(h0, .inr (12, [.ref s0, .int 4, .int 0, .ref s3, .ref s4, .ref s5, .ref s6, .ref s7, .int 0, .int 0, .int 0, .int 0, .int 0, .int 0, .int 0, .ref s15, .int 0, .ref s17, .int 0, .ref s19, .ref s20, .int (-1), .int 0, .int 0, .int 0, .int 0, .int 0, .ref s27, .int 0, .ref s29, .ref s30, .ref s31, .int 0, .int 0, .int 0, .ref s35, .ref s36, .ref s37, .long 0, .ref s39, .ref s40, .ref s41, .ref s42])), (s0, .inl (k0, 400, .inl g0))] ∧ xE U)) (va_Qv (fun (_ : Unit) => True) (fun _ t => ∃ (o_f_15 : Nat → Int32), va_P (dC, dI) classes [(h0, .inr (12, [.ref s0, .int 8, .int 0, .ref s3, .ref s4, .ref s5, .ref s6, .ref s7, .int 0, .int 0, .int 0, .int 0, .int 0, .int 0, .int 0, .ref s15, .int 0, .ref s17, .int 0, .ref s19, .ref s20, .int (-1), .int 0, .int 0, .int 0, .int 0, .int 0, .ref s27, .int 0, .ref s29, .ref s30, .ref s31, .int 0, .int 0, .int 0, .ref s35, .ref s36, .ref s37, .long 0, .ref s39, .ref s40, .ref s41, .ref s42])), (s0, .inl (k0, 400, .inl o_f_15))] t.heap ∧ va_K (dC, dI) classes [(k0, .byte)] t ∧ va_D (va_A [(h0, .inr (12, [.ref s0, .int 4, .int 0, .ref s3, .ref s4, .ref s5, .ref s6, .ref s7, .int 0, .int 0, .int 0, .int 0, .int 0, .int 0, .int 0, .ref s15, .int 0, .ref s17, .int 0, .ref s19, .ref s20, .int (-1), .int 0, .int 0, .int 0, .int 0, .int 0, .ref s27, .int 0, .ref s29, .ref s30, .ref s31, .int 0, .int 0, .int 0, .ref s35, .ref s36, .ref s37, .long 0, .ref s39, .ref s40, .ref s41, .ref s42])), (s0, .inl (k0, 400, .inl g0))] sz) [(h0, .inr (12, [.ref s0, .int 8, .int 0, .ref s3, .ref s4, .ref s5, .ref s6, .ref s7, .int 0, .int 0, .int 0, .int 0, .int 0, .int 0, .int 0, .ref s15, .int 0, .ref s17, .int 0, .ref s19, .ref s20, .int (-1), .int 0, .int 0, .int 0, .int 0, .int 0, .ref s27, .int 0, .ref s29, .ref s30, .ref s31, .int 0, .int 0, .int 0, .ref s35, .ref s36, .ref s37, .long 0, .ref s39, .ref s40, .ref s41, .ref s42])), (s0, .inl (k0, 400, .inl o_f_15))]) (va_A [(h0, .inr (12, [.ref s0, .int 4, .int 0, .ref s3, .ref s4, .ref s5, .ref s6, .ref s7, .int 0, .int 0, .int 0, .int 0, .int 0, .int 0, .int 0, .ref s15, .int 0, .ref s17, .int 0, .ref s19, .ref s20, .int (-1), .int 0, .int 0, .int 0, .int 0, .int 0, .ref s27, .int 0, .ref s29, .ref s30, .ref s31, .int 0, .int 0, .int 0, .ref s35, .ref s36, .ref s37, .long 0, .ref s39, .ref s40, .ref s41, .ref s42])), (s0, .inl (k0, 400, .inl g0))] sz)) 0 0 (va_A [(h0, .inr (12, [.ref s0, .int 4, .int 0, .ref s3, .ref s4, .ref s5, .ref s6, .ref s7, .int 0, .int 0, .int 0, .int 0, .int 0, .int 0, .int 0, .ref s15, .int 0, .ref s17, .int 0, .ref s19, .ref s20, .int (-1), .int 0, .int 0, .int 0, .int 0, .int 0, .ref s27, .int 0, .ref s29, .ref s30, .ref s31, .int 0, .int 0, .int 0, .ref s35, .ref s36, .ref s37, .long 0, .ref s39, .ref s40, .ref s41, .ref s42])), (s0, .inl (k0, 400, .inl g0))] sz) := by
  refine Met.ofW (cc := cX12_four) (maxL := 3) (ret := none) (by decide) rfl ?_
  intro p e s m args below meth c s₁ B hml hv
  obtain ⟨rfl, hsz, hP, hK, hD0, hE⟩ := hv
  have hx := B.exec
  have hb := B.bytes
  have hr := B.returns
  have hts := atoms_spec (ws := .code yX12_four cX12_four 3 none :: wsA) B.pre
  have hq : ∀ w ∈ wsA, w.before _ s = true := fun w h => hts w (List.mem_cons_of_mem _ h)
  have hown : s.vm.findClass RX12 = some m.cls := findClass_of_methodNamed B.named
  have hlocks := B.notSynchronized
  subst hsz
  have hD := hD0.self (sz := s.heap.size)
  generalize hAe : va_A [(h0, .inr (12, [.ref s0, .int 4, .int 0, .ref s3, .ref s4, .ref s5, .ref s6, .ref s7, .int 0, .int 0, .int 0, .int 0, .int 0, .int 0, .int 0, .ref s15, .int 0, .ref s17, .int 0, .ref s19, .ref s20, .int (-1), .int 0, .int 0, .int 0, .int 0, .int 0, .ref s27, .int 0, .ref s29, .ref s30, .ref s31, .int 0, .int 0, .int 0, .ref s35, .ref s36, .ref s37, .long 0, .ref s39, .ref s40, .ref s41, .ref s42])), (s0, .inl (k0, 400, .inl g0))] s.heap.size = A at hD ⊢
  have hA : ∀ q : Nat, s.heap.size ≤ q → A q := fun q h => by rw [← hAe]; exact Or.inr h
  have hS : va_S A s.heap s.heap [] := va_S.rf
  have hl := lv_entry ([.ref h0, .int x0]) (n := 3) (Nat.le_of_ble_eq_true rfl)
  rw [lg_entry_eq]
  generalize (lg_sl ([.ref h0, .int x0]) ++ List.replicate (3 - (lg_sl ([.ref h0, .int x0])).length) Slot.unset).toArray = ls at hl ⊢
  have hl : lv_has ls 3 [(0, .ref h0), (1, .int x0)] := hl
  refine lv_bipush (v := 24) hx hb dX12_four_0 (by decide) ?_
  refine lv_istore_n (lv' := [(2, .int 24), (0, .ref h0), (1, .int x0)]) hx hb dX12_four_2 rfl hl (by decide) rfl (fun ls hl => ?_)
  refine lv_iload_n hx hb dX12_four_3 rfl (lv_at hl 0 rfl) ?_
  refine lv_if_lt (tgt := 36) hx hb dX12_four_4 (by decide) (fun c9 => absurd c9 (by decide)) (fun _ => ?_)
  refine lv_aload_n hx hb dX12_four_7 rfl (lv_at hl 1 rfl) ?_
  refine va_get (D := (dC, dI)) (ci := 12) (v := .ref s0) (C := RX12) (T := TX12) (N := 43) hx hb hq inX12 hown hK hP 0 rfl rfl 0 (by decide) (hq _ qw_1160) (fun _ h9 => h9) rfl dX12_four_8 ?_
  refine lv_aload_n hx hb dX12_four_11 rfl (lv_at hl 1 rfl) ?_
  refine va_get (D := (dC, dI)) (ci := 12) (v := .int 4) (C := RX12) (T := TX12) (N := 43) hx hb hq inX12 hown hK hP 0 rfl rfl 1 (by decide) (hq _ qw_1161) (fun _ h9 => h9) rfl dX12_four_12 ?_
  refine lv_iload_n hx hb dX12_four_15 rfl (lv_at hl 2 rfl) ?_
  refine lv_iload_n hx hb dX12_four_16 rfl (lv_at hl 0 rfl) ?_
  refine lv_ishr hx hb dX12_four_17 ?_
  refine lv_topi (fun y_1 ey_1 => ?_)
  refine lv_i2b hx hb dX12_four_18 rfl ?_
  refine lv_topi (fun y_2 ey_2 => ?_)
  refine va_bast hx hb hK hP hD hS 1 0 rfl rfl (inr_ok rfl) dX12_four_19 (fun H locs hP hD hS => ?_)
  generalize upd g0 (Int32.toNatClampNeg 4) (vp_nar .byte y_2) = f_3 at hP hD
  have hP : va_P (dC, dI) classes [(h0, .inr (12, [.ref s0, .int 4, .int 0, .ref s3, .ref s4, .ref s5, .ref s6, .ref s7, .int 0, .int 0, .int 0, .int 0, .int 0, .int 0, .int 0, .ref s15, .int 0, .ref s17, .int 0, .ref s19, .ref s20, .int (-1), .int 0, .int 0, .int 0, .int 0, .int 0, .ref s27, .int 0, .ref s29, .ref s30, .ref s31, .int 0, .int 0, .int 0, .ref s35, .ref s36, .ref s37, .long 0, .ref s39, .ref s40, .ref s41, .ref s42])), (s0, .inl (k0, 400, .inl f_3))] H := hP
  have hD : va_D A [(h0, .inr (12, [.ref s0, .int 4, .int 0, .ref s3, .ref s4, .ref s5, .ref s6, .ref s7, .int 0, .int 0, .int 0, .int 0, .int 0, .int 0, .int 0, .ref s15, .int 0, .ref s17, .int 0, .ref s19, .ref s20, .int (-1), .int 0, .int 0, .int 0, .int 0, .int 0, .ref s27, .int 0, .ref s29, .ref s30, .ref s31, .int 0, .int 0, .int 0, .ref s35, .ref s36, .ref s37, .long 0, .ref s39, .ref s40, .ref s41, .ref s42])), (s0, .inl (k0, 400, .inl f_3))] := hD
  refine lv_aload_n hx hb dX12_four_20 rfl (lv_at hl 1 rfl) ?_
  refine lv_dup hx hb dX12_four_21 rfl ?_
  refine va_get (D := (dC, dI)) (ci := 12) (v := .int 4) (C := RX12) (T := TX12) (N := 43) hx hb hq inX12 hown hK hP 0 rfl rfl 1 (by decide) (hq _ qw_1161) (fun _ h9 => h9) rfl dX12_four_22 ?_
  refine lv_iconst (v := 1) hx hb dX12_four_25 (by decide) ?_
  refine lv_iadd hx hb dX12_four_26 ?_
  refine lv_topi (fun y_4 ey_4 => ?_)
  obtain rfl : y_4 = 5 := ey_4.trans (by decide)
  refine va_put (D := (dC, dI)) (ci := 12) (v := .int 5) (ty := .int) (C := RX12) (T := TX12) (N := 43) hx hb hq inX12 tyX12 tyX12_ok nmX12 hown hK hP hD hS 0 rfl rfl 1 (by decide) (hq _ qw_1161) (fun _ h9 => h9) rfl (by decide +kernel) rfl rfl (Nat.le_of_ble_eq_true rfl) dX12_four_27 (fun H locs hP hD hS => ?_)
  have hP : va_P (dC, dI) classes [(h0, .inr (12, [.ref s0, .int 5, .int 0, .ref s3, .ref s4, .ref s5, .ref s6, .ref s7, .int 0, .int 0, .int 0, .int 0, .int 0, .int 0, .int 0, .ref s15, .int 0, .ref s17, .int 0, .ref s19, .ref s20, .int (-1), .int 0, .int 0, .int 0, .int 0, .int 0, .ref s27, .int 0, .ref s29, .ref s30, .ref s31, .int 0, .int 0, .int 0, .ref s35, .ref s36, .ref s37, .long 0, .ref s39, .ref s40, .ref s41, .ref s42])), (s0, .inl (k0, 400, .inl f_3))] H := hP
  have hD : va_D A [(h0, .inr (12, [.ref s0, .int 5, .int 0, .ref s3, .ref s4, .ref s5, .ref s6, .ref s7, .int 0, .int 0, .int 0, .int 0, .int 0, .int 0, .int 0, .ref s15, .int 0, .ref s17, .int 0, .ref s19, .ref s20, .int (-1), .int 0, .int 0, .int 0, .int 0, .int 0, .ref s27, .int 0, .ref s29, .ref s30, .ref s31, .int 0, .int 0, .int 0, .ref s35, .ref s36, .ref s37, .long 0, .ref s39, .ref s40, .ref s41, .ref s42])), (s0, .inl (k0, 400, .inl f_3))] := hD
  refine lv_iinc (v := 16) (lv' := [(2, .int 16), (0, .ref h0), (1, .int x0)]) hx hb dX12_four_30 hl (k := 0) rfl (by decide) (by decide) rfl (fun ls hl => ?_)
  refine lv_goto (tgt := 3) hx hb dX12_four_33 (by decide) ?_
  refine lv_iload_n hx hb dX12_four_3 rfl (lv_at hl 0 rfl) ?_
  refine lv_if_lt (tgt := 36) hx hb dX12_four_4 (by decide) (fun c9 => absurd c9 (by decide)) (fun _ => ?_)
  refine lv_aload_n hx hb dX12_four_7 rfl (lv_at hl 1 rfl) ?_
  refine va_get (D := (dC, dI)) (ci := 12) (v := .ref s0) (C := RX12) (T := TX12) (N := 43) hx hb hq inX12 hown hK hP 0 rfl rfl 0 (by decide) (hq _ qw_1160) (fun _ h9 => h9) rfl dX12_four_8 ?_
  refine lv_aload_n hx hb dX12_four_11 rfl (lv_at hl 1 rfl) ?_
  refine va_get (D := (dC, dI)) (ci := 12) (v := .int 5) (C := RX12) (T := TX12) (N := 43) hx hb hq inX12 hown hK hP 0 rfl rfl 1 (by decide) (hq _ qw_1161) (fun _ h9 => h9) rfl dX12_four_12 ?_
  refine lv_iload_n hx hb dX12_four_15 rfl (lv_at hl 2 rfl) ?_
  refine lv_iload_n hx hb dX12_four_16 rfl (lv_at hl 0 rfl) ?_
  refine lv_ishr hx hb dX12_four_17 ?_
  refine lv_topi (fun y_5 ey_5 => ?_)
  refine lv_i2b hx hb dX12_four_18 rfl ?_
  refine lv_topi (fun y_6 ey_6 => ?_)
  refine va_bast hx hb hK hP hD hS 1 0 rfl rfl (inr_ok rfl) dX12_four_19 (fun H locs hP hD hS => ?_)
  generalize upd f_3 (Int32.toNatClampNeg 5) (vp_nar .byte y_6) = f_7 at hP hD
  have hP : va_P (dC, dI) classes [(h0, .inr (12, [.ref s0, .int 5, .int 0, .ref s3, .ref s4, .ref s5, .ref s6, .ref s7, .int 0, .int 0, .int 0, .int 0, .int 0, .int 0, .int 0, .ref s15, .int 0, .ref s17, .int 0, .ref s19, .ref s20, .int (-1), .int 0, .int 0, .int 0, .int 0, .int 0, .ref s27, .int 0, .ref s29, .ref s30, .ref s31, .int 0, .int 0, .int 0, .ref s35, .ref s36, .ref s37, .long 0, .ref s39, .ref s40, .ref s41, .ref s42])), (s0, .inl (k0, 400, .inl f_7))] H := hP
  have hD : va_D A [(h0, .inr (12, [.ref s0, .int 5, .int 0, .ref s3, .ref s4, .ref s5, .ref s6, .ref s7, .int 0, .int 0, .int 0, .int 0, .int 0, .int 0, .int 0, .ref s15, .int 0, .ref s17, .int 0, .ref s19, .ref s20, .int (-1), .int 0, .int 0, .int 0, .int 0, .int 0, .ref s27, .int 0, .ref s29, .ref s30, .ref s31, .int 0, .int 0, .int 0, .ref s35, .ref s36, .ref s37, .long 0, .ref s39, .ref s40, .ref s41, .ref s42])), (s0, .inl (k0, 400, .inl f_7))] := hD
  refine lv_aload_n hx hb dX12_four_20 rfl (lv_at hl 1 rfl) ?_
  refine lv_dup hx hb dX12_four_21 rfl ?_
  refine va_get (D := (dC, dI)) (ci := 12) (v := .int 5) (C := RX12) (T := TX12) (N := 43) hx hb hq inX12 hown hK hP 0 rfl rfl 1 (by decide) (hq _ qw_1161) (fun _ h9 => h9) rfl dX12_four_22 ?_
  refine lv_iconst (v := 1) hx hb dX12_four_25 (by decide) ?_
  refine lv_iadd hx hb dX12_four_26 ?_
  refine lv_topi (fun y_8 ey_8 => ?_)
  obtain rfl : y_8 = 6 := ey_8.trans (by decide)
  refine va_put (D := (dC, dI)) (ci := 12) (v := .int 6) (ty := .int) (C := RX12) (T := TX12) (N := 43) hx hb hq inX12 tyX12 tyX12_ok nmX12 hown hK hP hD hS 0 rfl rfl 1 (by decide) (hq _ qw_1161) (fun _ h9 => h9) rfl (by decide +kernel) rfl rfl (Nat.le_of_ble_eq_true rfl) dX12_four_27 (fun H locs hP hD hS => ?_)
  have hP : va_P (dC, dI) classes [(h0, .inr (12, [.ref s0, .int 6, .int 0, .ref s3, .ref s4, .ref s5, .ref s6, .ref s7, .int 0, .int 0, .int 0, .int 0, .int 0, .int 0, .int 0, .ref s15, .int 0, .ref s17, .int 0, .ref s19, .ref s20, .int (-1), .int 0, .int 0, .int 0, .int 0, .int 0, .ref s27, .int 0, .ref s29, .ref s30, .ref s31, .int 0, .int 0, .int 0, .ref s35, .ref s36, .ref s37, .long 0, .ref s39, .ref s40, .ref s41, .ref s42])), (s0, .inl (k0, 400, .inl f_7))] H := hP
  have hD : va_D A [(h0, .inr (12, [.ref s0, .int 6, .int 0, .ref s3, .ref s4, .ref s5, .ref s6, .ref s7, .int 0, .int 0, .int 0, .int 0, .int 0, .int 0, .int 0, .ref s15, .int 0, .ref s17, .int 0, .ref s19, .ref s20, .int (-1), .int 0, .int 0, .int 0, .int 0, .int 0, .ref s27, .int 0, .ref s29, .ref s30, .ref s31, .int 0, .int 0, .int 0, .ref s35, .ref s36, .ref s37, .long 0, .ref s39, .ref s40, .ref s41, .ref s42])), (s0, .inl (k0, 400, .inl f_7))] := hD
  refine lv_iinc (v := 8) (lv' := [(2, .int 8), (0, .ref h0), (1, .int x0)]) hx hb dX12_four_30 hl (k := 0) rfl (by decide) (by decide) rfl (fun ls hl => ?_)
  refine lv_goto (tgt := 3) hx hb dX12_four_33 (by decide) ?_
  refine lv_iload_n hx hb dX12_four_3 rfl (lv_at hl 0 rfl) ?_
  refine lv_if_lt (tgt := 36) hx hb dX12_four_4 (by decide) (fun c9 => absurd c9 (by decide)) (fun _ => ?_)
  refine lv_aload_n hx hb dX12_four_7 rfl (lv_at hl 1 rfl) ?_
  refine va_get (D := (dC, dI)) (ci := 12) (v := .ref s0) (C := RX12) (T := TX12) (N := 43) hx hb hq inX12 hown hK hP 0 rfl rfl 0 (by decide) (hq _ qw_1160) (fun _ h9 => h9) rfl dX12_four_8 ?_
  refine lv_aload_n hx hb dX12_four_11 rfl (lv_at hl 1 rfl) ?_
  refine va_get (D := (dC, dI)) (ci := 12) (v := .int 6) (C := RX12) (T := TX12) (N := 43) hx hb hq inX12 hown hK hP 0 rfl rfl 1 (by decide) (hq _ qw_1161) (fun _ h9 => h9) rfl dX12_four_12 ?_
  refine lv_iload_n hx hb dX12_four_15 rfl (lv_at hl 2 rfl) ?_
  refine lv_iload_n hx hb dX12_four_16 rfl (lv_at hl 0 rfl) ?_
  refine lv_ishr hx hb dX12_four_17 ?_
  refine lv_topi (fun y_9 ey_9 => ?_)
  refine lv_i2b hx hb dX12_four_18 rfl ?_
  refine lv_topi (fun y_10 ey_10 => ?_)
  refine va_bast hx hb hK hP hD hS 1 0 rfl rfl (inr_ok rfl) dX12_four_19 (fun H locs hP hD hS => ?_)
  generalize upd f_7 (Int32.toNatClampNeg 6) (vp_nar .byte y_10) = f_11 at hP hD
  have hP : va_P (dC, dI) classes [(h0, .inr (12, [.ref s0, .int 6, .int 0, .ref s3, .ref s4, .ref s5, .ref s6, .ref s7, .int 0, .int 0, .int 0, .int 0, .int 0, .int 0, .int 0, .ref s15, .int 0, .ref s17, .int 0, .ref s19, .ref s20, .int (-1), .int 0, .int 0, .int 0, .int 0, .int 0, .ref s27, .int 0, .ref s29, .ref s30, .ref s31, .int 0, .int 0, .int 0, .ref s35, .ref s36, .ref s37, .long 0, .ref s39, .ref s40, .ref s41, .ref s42])), (s0, .inl (k0, 400, .inl f_11))] H := hP
  have hD : va_D A [(h0, .inr (12, [.ref s0, .int 6, .int 0, .ref s3, .ref s4, .ref s5, .ref s6, .ref s7, .int 0, .int 0, .int 0, .int 0, .int 0, .int 0, .int 0, .ref s15, .int 0, .ref s17, .int 0, .ref s19, .ref s20, .int (-1), .int 0, .int 0, .int 0, .int 0, .int 0, .ref s27, .int 0, .ref s29, .ref s30, .ref s31, .int 0, .int 0, .int 0, .ref s35, .ref s36, .ref s37, .long 0, .ref s39, .ref s40, .ref s41, .ref s42])), (s0, .inl (k0, 400, .inl f_11))] := hD
  refine lv_aload_n hx hb dX12_four_20 rfl (lv_at hl 1 rfl) ?_
  refine lv_dup hx hb dX12_four_21 rfl ?_
  refine va_get (D := (dC, dI)) (ci := 12) (v := .int 6) (C := RX12) (T := TX12) (N := 43) hx hb hq inX12 hown hK hP 0 rfl rfl 1 (by decide) (hq _ qw_1161) (fun _ h9 => h9) rfl dX12_four_22 ?_
  refine lv_iconst (v := 1) hx hb dX12_four_25 (by decide) ?_
  refine lv_iadd hx hb dX12_four_26 ?_
  refine lv_topi (fun y_12 ey_12 => ?_)
  obtain rfl : y_12 = 7 := ey_12.trans (by decide)
  refine va_put (D := (dC, dI)) (ci := 12) (v := .int 7) (ty := .int) (C := RX12) (T := TX12) (N := 43) hx hb hq inX12 tyX12 tyX12_ok nmX12 hown hK hP hD hS 0 rfl rfl 1 (by decide) (hq _ qw_1161) (fun _ h9 => h9) rfl (by decide +kernel) rfl rfl (Nat.le_of_ble_eq_true rfl) dX12_four_27 (fun H locs hP hD hS => ?_)
  have hP : va_P (dC, dI) classes [(h0, .inr (12, [.ref s0, .int 7, .int 0, .ref s3, .ref s4, .ref s5, .ref s6, .ref s7, .int 0, .int 0, .int 0, .int 0, .int 0, .int 0, .int 0, .ref s15, .int 0, .ref s17, .int 0, .ref s19, .ref s20, .int (-1), .int 0, .int 0, .int 0, .int 0, .int 0, .ref s27, .int 0, .ref s29, .ref s30, .ref s31, .int 0, .int 0, .int 0, .ref s35, .ref s36, .ref s37, .long 0, .ref s39, .ref s40, .ref s41, .ref s42])), (s0, .inl (k0, 400, .inl f_11))] H := hP
  have hD : va_D A [(h0, .inr (12, [.ref s0, .int 7, .int 0, .ref s3, .ref s4, .ref s5, .ref s6, .ref s7, .int 0, .int 0, .int 0, .int 0, .int 0, .int 0, .int 0, .ref s15, .int 0, .ref s17, .int 0, .ref s19, .ref s20, .int (-1), .int 0, .int 0, .int 0, .int 0, .int 0, .ref s27, .int 0, .ref s29, .ref s30, .ref s31, .int 0, .int 0, .int 0, .ref s35, .ref s36, .ref s37, .long 0, .ref s39, .ref s40, .ref s41, .ref s42])), (s0, .inl (k0, 400, .inl f_11))] := hD
  refine lv_iinc (v := 0) (lv' := [(2, .int 0), (0, .ref h0), (1, .int x0)]) hx hb dX12_four_30 hl (k := 0) rfl (by decide) (by decide) rfl (fun ls hl => ?_)
  refine lv_goto (tgt := 3) hx hb dX12_four_33 (by decide) ?_
  refine lv_iload_n hx hb dX12_four_3 rfl (lv_at hl 0 rfl) ?_
  refine lv_if_lt (tgt := 36) hx hb dX12_four_4 (by decide) (fun c9 => absurd c9 (by decide)) (fun _ => ?_)
  refine lv_aload_n hx hb dX12_four_7 rfl (lv_at hl 1 rfl) ?_
  refine va_get (D := (dC, dI)) (ci := 12) (v := .ref s0) (C := RX12) (T := TX12) (N := 43) hx hb hq inX12 hown hK hP 0 rfl rfl 0 (by decide) (hq _ qw_1160) (fun _ h9 => h9) rfl dX12_four_8 ?_
  refine lv_aload_n hx hb dX12_four_11 rfl (lv_at hl 1 rfl) ?_
  refine va_get (D := (dC, dI)) (ci := 12) (v := .int 7) (C := RX12) (T := TX12) (N := 43) hx hb hq inX12 hown hK hP 0 rfl rfl 1 (by decide) (hq _ qw_1161) (fun _ h9 => h9) rfl dX12_four_12 ?_
  refine lv_iload_n hx hb dX12_four_15 rfl (lv_at hl 2 rfl) ?_
  refine lv_iload_n hx hb dX12_four_16 rfl (lv_at hl 0 rfl) ?_
  refine lv_ishr hx hb dX12_four_17 ?_
  refine lv_topi (fun y_13 ey_13 => ?_)
  refine lv_i2b hx hb dX12_four_18 rfl ?_
  refine lv_topi (fun y_14 ey_14 => ?_)
  refine va_bast hx hb hK hP hD hS 1 0 rfl rfl (inr_ok rfl) dX12_four_19 (fun H locs hP hD hS => ?_)
  generalize upd f_11 (Int32.toNatClampNeg 7) (vp_nar .byte y_14) = f_15 at hP hD
  have hP : va_P (dC, dI) classes [(h0, .inr (12, [.ref s0, .int 7, .int 0, .ref s3, .ref s4, .ref s5, .ref s6, .ref s7, .int 0, .int 0, .int 0, .int 0, .int 0, .int 0, .int 0, .ref s15, .int 0, .ref s17, .int 0, .ref s19, .ref s20, .int (-1), .int 0, .int 0, .int 0, .int 0, .int 0, .ref s27, .int 0, .ref s29, .ref s30, .ref s31, .int 0, .int 0, .int 0, .ref s35, .ref s36, .ref s37, .long 0, .ref s39, .ref s40, .ref s41, .ref s42])), (s0, .inl (k0, 400, .inl f_15))] H := hP
  have hD : va_D A [(h0, .inr (12, [.ref s0, .int 7, .int 0, .ref s3, .ref s4, .ref s5, .ref s6, .ref s7, .int 0, .int 0, .int 0, .int 0, .int 0, .int 0, .int 0, .ref s15, .int 0, .ref s17, .int 0, .ref s19, .ref s20, .int (-1), .int 0, .int 0, .int 0, .int 0, .int 0, .ref s27, .int 0, .ref s29, .ref s30, .ref s31, .int 0, .int 0, .int 0, .ref s35, .ref s36, .ref s37, .long 0, .ref s39, .ref s40, .ref s41, .ref s42])), (s0, .inl (k0, 400, .inl f_15))] := hD
  refine lv_aload_n hx hb dX12_four_20 rfl (lv_at hl 1 rfl) ?_
  refine lv_dup hx hb dX12_four_21 rfl ?_
  refine va_get (D := (dC, dI)) (ci := 12) (v := .int 7) (C := RX12) (T := TX12) (N := 43) hx hb hq inX12 hown hK hP 0 rfl rfl 1 (by decide) (hq _ qw_1161) (fun _ h9 => h9) rfl dX12_four_22 ?_
  refine lv_iconst (v := 1) hx hb dX12_four_25 (by decide) ?_
  refine lv_iadd hx hb dX12_four_26 ?_
  refine lv_topi (fun y_16 ey_16 => ?_)
  obtain rfl : y_16 = 8 := ey_16.trans (by decide)
  refine va_put (D := (dC, dI)) (ci := 12) (v := .int 8) (ty := .int) (C := RX12) (T := TX12) (N := 43) hx hb hq inX12 tyX12 tyX12_ok nmX12 hown hK hP hD hS 0 rfl rfl 1 (by decide) (hq _ qw_1161) (fun _ h9 => h9) rfl (by decide +kernel) rfl rfl (Nat.le_of_ble_eq_true rfl) dX12_four_27 (fun H locs hP hD hS => ?_)
  have hP : va_P (dC, dI) classes [(h0, .inr (12, [.ref s0, .int 8, .int 0, .ref s3, .ref s4, .ref s5, .ref s6, .ref s7, .int 0, .int 0, .int 0, .int 0, .int 0, .int 0, .int 0, .ref s15, .int 0, .ref s17, .int 0, .ref s19, .ref s20, .int (-1), .int 0, .int 0, .int 0, .int 0, .int 0, .ref s27, .int 0, .ref s29, .ref s30, .ref s31, .int 0, .int 0, .int 0, .ref s35, .ref s36, .ref s37, .long 0, .ref s39, .ref s40, .ref s41, .ref s42])), (s0, .inl (k0, 400, .inl f_15))] H := hP
  have hD : va_D A [(h0, .inr (12, [.ref s0, .int 8, .int 0, .ref s3, .ref s4, .ref s5, .ref s6, .ref s7, .int 0, .int 0, .int 0, .int 0, .int 0, .int 0, .int 0, .ref s15, .int 0, .ref s17, .int 0, .ref s19, .ref s20, .int (-1), .int 0, .int 0, .int 0, .int 0, .int 0, .ref s27, .int 0, .ref s29, .ref s30, .ref s31, .int 0, .int 0, .int 0, .ref s35, .ref s36, .ref s37, .long 0, .ref s39, .ref s40, .ref s41, .ref s42])), (s0, .inl (k0, 400, .inl f_15))] := hD
  refine lv_iinc (v := (-8)) (lv' := [(2, .int (-8)), (0, .ref h0), (1, .int x0)]) hx hb dX12_four_30 hl (k := 0) rfl (by decide) (by decide) rfl (fun ls hl => ?_)
  refine lv_goto (tgt := 3) hx hb dX12_four_33 (by decide) ?_
  refine lv_iload_n hx hb dX12_four_3 rfl (lv_at hl 0 rfl) ?_
  refine lv_if_lt (tgt := 36) hx hb dX12_four_4 (by decide) (fun _ => ?_) (fun c9 => absurd c9 (by decide))
  have hP9 := hP.sub (ws' := [(h0, .inr (12, [.ref s0, .int 8, .int 0, .ref s3, .ref s4, .ref s5, .ref s6, .ref s7, .int 0, .int 0, .int 0, .int 0, .int 0, .int 0, .int 0, .ref s15, .int 0, .ref s17, .int 0, .ref s19, .ref s20, .int (-1), .int 0, .int 0, .int 0, .int 0, .int 0, .ref s27, .int 0, .ref s29, .ref s30, .ref s31, .int 0, .int 0, .int 0, .ref s35, .ref s36, .ref s37, .long 0, .ref s39, .ref s40, .ref s41, .ref s42])), (s0, .inl (k0, 400, .inl f_15))]) [0, 1] rfl
  have hD9 := hD.sub (ws' := [(h0, .inr (12, [.ref s0, .int 8, .int 0, .ref s3, .ref s4, .ref s5, .ref s6, .ref s7, .int 0, .int 0, .int 0, .int 0, .int 0, .int 0, .int 0, .ref s15, .int 0, .ref s17, .int 0, .ref s19, .ref s20, .int (-1), .int 0, .int 0, .int 0, .int 0, .int 0, .ref s27, .int 0, .ref s29, .ref s30, .ref s31, .int 0, .int 0, .int 0, .ref s35, .ref s36, .ref s37, .long 0, .ref s39, .ref s40, .ref s41, .ref s42])), (s0, .inl (k0, 400, .inl f_15))]) [0, 1] (by decide) rfl
  have hK9 := hK.sub (tys' := [(k0, .byte)]) [0] rfl
  refine W.widen (k := 0) (n := 0) (Nat.le_of_ble_eq_true rfl) (Nat.le_of_ble_eq_true rfl) ?_
  exact W.vret hx hb hr (fun t ht hW => ⟨⟨(), rfl, trivial, f_15, by rw [ht]; exact hP9, va_K.moved hW.alike hK9, hD9⟩, hS.F ht⟩) hS.2.2 dX12_four_36

set_option maxHeartbeats 4000000 in
set_option maxRecDepth 100000 in
/-- c_M_four_8 -/
theorem c_M_four_8 (l : Launch) (dC : Nat → ClassId) (dI : Nat → Nat → Nat) (sz : Nat) (h0 : Nat) (s0 : Nat) (s3 : Nat) (s4 : Nat) (s5 : Nat) (s6 : Nat) (s7 : Nat) (s15 : Nat) (s17 : Nat) (s19 : Nat) (s20 : Nat) (s27 : Nat) (s29 : Nat) (s30 : Nat) (s31 : Nat) (s35 : Nat) (s36 : Nat) (s37 : Nat) (s39 : Nat) (s40 : Nat) (s41 : Nat) (s42 : Nat) (k0 : ClassId) (g0 : Nat → Int32) (x0 : Int32) : Met l yX12_four (.code yX12_four cX12_four 3 none :: wsA) ({ frames := 0, cells := 0, slots := 0, locals := 0 }) (va_Pc [.ref h0, .int x0] (fun U => U.heap.size = sz ∧ va_P (dC, dI) classes [(h0, .inr (12, [.ref s0, .int 8, .int 0, .ref s3, .ref s4, .ref s5, .ref s6, .ref s7, .int 0, .int 0, .int 0, .int 0, .int 0, .int 0, .int 0, .ref s15, .int 0, .ref s17, .int 0, .ref s19, .ref s20, .int (-1), .int 0, .int 0, .int 0, .int 0, .int 0, .ref s27, .int 0, .ref s29, .ref s30, .ref s31, .int 0, .int 0, .int 0, .ref s35, .ref s36, .ref s37, .long 0, .ref s39, .ref s40, .ref s41, .ref s42])), (s0, .inl (k0, 400, .inl g0))] U.heap ∧ va_K (dC, dI) classes [(k0, .byte)] U ∧ va_D (fun _ => True) [(h0, .inr (12, [.ref s0, .int 8, .int 0, .ref s3, .ref s4, .ref s5, .ref s6, .ref s7, .int 0, .int 0, .int 0, .int 0, .int 0, .int 0, .int 0, .ref s15, .int 0, .ref s17, .int 0, .ref s19, .ref s20, .int (-1), .int 0, .int 0, .int 0, .int 0, .int 0, .ref s27, .int 0, .ref s29, .ref s30, .ref s31, .int 0, .int 0, .int 0, .ref s35, .ref s36, .ref s37, .long 0, .ref s39, .ref s40, .ref s41, .ref s42])), (s0, .inl (k0, 400, .inl g0))] ∧ xE U)) (va_Qv (fun (_ : Unit) => True) (fun _ t => ∃ (o_f_15 : Nat → Int32), va_P (dC, dI) classes [(h0, .inr (12, [.ref s0, .int 12, .int 0, .ref s3, .ref s4, .ref s5, .ref s6, .ref s7, .int 0, .int 0, .int 0, .int 0, .int 0, .int 0, .int 0, .ref s15, .int 0, .ref s17, .int 0, .ref s19, .ref s20, .int (-1), .int 0, .int 0, .int 0, .int 0, .int 0, .ref s27, .int 0, .ref s29, .ref s30, .ref s31, .int 0, .int 0, .int 0, .ref s35, .ref s36, .ref s37, .long 0, .ref s39, .ref s40, .ref s41, .ref s42])), (s0, .inl (k0, 400, .inl o_f_15))] t.heap ∧ va_K (dC, dI) classes [(k0, .byte)] t ∧ va_D (va_A [(h0, .inr (12, [.ref s0, .int 8, .int 0, .ref s3, .ref s4, .ref s5, .ref s6, .ref s7, .int 0, .int 0, .int 0, .int 0, .int 0, .int 0, .int 0, .ref s15, .int 0, .ref s17, .int 0, .ref s19, .ref s20, .int (-1), .int 0, .int 0, .int 0, .int 0, .int 0, .ref s27, .int 0, .ref s29, .ref s30, .ref s31, .int 0, .int 0, .int 0, .ref s35, .ref s36, .ref s37, .long 0, .ref s39, .ref s40, .ref s41, .ref s42])), (s0, .inl (k0, 400, .inl g0))] sz) [(h0, .inr (12, [.ref s0, .int 12, .int 0, .ref s3, .ref s4, .ref s5, .ref s6, .ref s7, .int 0, .int 0, .int 0, .int 0, .int 0, .int 0, .int 0, .ref s15, .int 0, .ref s17, .int 0, .ref s19, .ref s20, .int (-1), .int 0, .int 0, .int 0, .int 0, .int 0, .ref s27, .int 0, .ref s29, .ref s30, .ref s31, .int 0, .int 0, .int 0, .ref s35, .ref s36, .ref s37, .long 0, .ref s39, .ref s40, .ref s41, .ref s42])), (s0, .inl (k0, 400, .inl o_f_15))]) (va_A [(h0, .inr (12, [.ref s0, .int 8, .int 0, .ref s3, .ref s4, .ref s5, .ref s6, .ref s7, .int 0, .int 0, .int 0, .int 0, .int 0, .int 0, .int 0, .ref s15, .int 0, .ref s17, .int 0, .ref s19, .ref s20, .int (-1), .int 0, .int 0, .int 0, .int 0, .int 0, .ref s27, .int 0, .ref s29, .ref s30, .ref s31, .int 0, .int 0, .int 0, .ref s35, .ref s36, .ref s37, .long 0, .ref s39, .ref s40, .ref s41, .ref s42])), (s0, .inl (k0, 400, .inl g0))] sz)) 0 0 (va_A [(h0, .inr (12, [.ref s0, .int 8, .int 0, .ref s3, .ref s4, .ref s5, .ref s6, .ref s7, .int 0, .int 0, .int 0, .int 0, .int 0, .int 0, .int 0, .ref s15, .int 0, .ref s17, .int 0, .ref s19, .ref s20, .int (-1), .int 0, .int 0, .int 0, .int 0, .int 0, .ref s27, .int 0, .ref s29, .ref s30, .ref s31, .int 0, .int 0, .int 0, .ref s35, .ref s36, .ref s37, .long 0, .ref s39, .ref s40, .ref s41, .ref s42])), (s0, .inl (k0, 400, .inl g0))] sz) := by
  refine Met.ofW (cc := cX12_four) (maxL := 3) (ret := none) (by decide) rfl ?_
  intro p e s m args below meth c s₁ B hml hv
  obtain ⟨rfl, hsz, hP, hK, hD0, hE⟩ := hv
  have hx := B.exec
  have hb := B.bytes
  have hr := B.returns
  have hts := atoms_spec (ws := .code yX12_four cX12_four 3 none :: wsA) B.pre
  have hq : ∀ w ∈ wsA, w.before _ s = true := fun w h => hts w (List.mem_cons_of_mem _ h)
  have hown : s.vm.findClass RX12 = some m.cls := findClass_of_methodNamed B.named
  have hlocks := B.notSynchronized
  subst hsz
  have hD := hD0.self (sz := s.heap.size)
  generalize hAe : va_A [(h0, .inr (12, [.ref s0, .int 8, .int 0, .ref s3, .ref s4, .ref s5, .ref s6, .ref s7, .int 0, .int 0, .int 0, .int 0, .int 0, .int 0, .int 0, .ref s15, .int 0, .ref s17, .int 0, .ref s19, .ref s20, .int (-1), .int 0, .int 0, .int 0, .int 0, .int 0, .ref s27, .int 0, .ref s29, .ref s30, .ref s31, .int 0, .int 0, .int 0, .ref s35, .ref s36, .ref s37, .long 0, .ref s39, .ref s40, .ref s41, .ref s42])), (s0, .inl (k0, 400, .inl g0))] s.heap.size = A at hD ⊢
  have hA : ∀ q : Nat, s.heap.size ≤ q → A q := fun q h => by rw [← hAe]; exact Or.inr h
  have hS : va_S A s.heap s.heap [] := va_S.rf
  have hl := lv_entry ([.ref h0, .int x0]) (n := 3) (Nat.le_of_ble_eq_true rfl)
  rw [lg_entry_eq]
  generalize (lg_sl ([.ref h0, .int x0]) ++ List.replicate (3 - (lg_sl ([.ref h0, .int x0])).length) Slot.unset).toArray = ls at hl ⊢
  have hl : lv_has ls 3 [(0, .ref h0), (1, .int x0)] := hl
  refine lv_bipush (v := 24) hx hb dX12_four_0 (by decide) ?_
  refine lv_istore_n (lv' := [(2, .int 24), (0, .ref h0), (1, .int x0)]) hx hb dX12_four_2 rfl hl (by decide) rfl (fun ls hl => ?_)
  refine lv_iload_n hx hb dX12_four_3 rfl (lv_at hl 0 rfl) ?_
  refine lv_if_lt (tgt := 36) hx hb dX12_four_4 (by decide) (fun c9 => absurd c9 (by decide)) (fun _ => ?_)
  refine lv_aload_n hx hb dX12_four_7 rfl (lv_at hl 1 rfl) ?_
  refine va_get (D := (dC, dI)) (ci := 12) (v := .ref s0) (C := RX12) (T := TX12) (N := 43) hx hb hq inX12 hown hK hP 0 rfl rfl 0 (by decide) (hq _ qw_1160) (fun _ h9 => h9) rfl dX12_four_8 ?_
  refine lv_aload_n hx hb dX12_four_11 rfl (lv_at hl 1 rfl) ?_
  refine va_get (D := (dC, dI)) (ci := 12) (v := .int 8) (C := RX12) (T := TX12) (N := 43) hx hb hq inX12 hown hK hP 0 rfl rfl 1 (by decide) (hq _ qw_1161) (fun _ h9 => h9) rfl dX12_four_12 ?_
  refine lv_iload_n hx hb dX12_four_15 rfl (lv_at hl 2 rfl) ?_
  refine lv_iload_n hx hb dX12_four_16 rfl (lv_at hl 0 rfl) ?_
  refine lv_ishr hx hb dX12_four_17 ?_
  refine lv_topi (fun y_1 ey_1 => ?_)
  refine lv_i2b hx hb dX12_four_18 rfl ?_
  refine lv_topi (fun y_2 ey_2 => ?_)
  refine va_bast hx hb hK hP hD hS 1 0 rfl rfl (inr_ok rfl) dX12_four_19 (fun H locs hP hD hS => ?_)
  generalize upd g0 (Int32.toNatClampNeg 8) (vp_nar .byte y_2) = f_3 at hP hD
  have hP : va_P (dC, dI) classes [(h0, .inr (12, [.ref s0, .int 8, .int 0, .ref s3, .ref s4, .ref s5, .ref s6, .ref s7, .int 0, .int 0, .int 0, .int 0, .int 0, .int 0, .int 0, .ref s15, .int 0, .ref s17, .int 0, .ref s19, .ref s20, .int (-1), .int 0, .int 0, .int 0, .int 0, .int 0, .ref s27, .int 0, .ref s29, .ref s30, .ref s31, .int 0, .int 0, .int 0, .ref s35, .ref s36, .ref s37, .long 0, .ref s39, .ref s40, .ref s41, .ref s42])), (s0, .inl (k0, 400, .inl f_3))] H := hP
  have hD : va_D A [(h0, .inr (12, [.ref s0, .int 8, .int 0, .ref s3, .ref s4, .ref s5, .ref s6, .ref s7, .int 0, .int 0, .int 0, .int 0, .int 0, .int 0, .int 0, .ref s15, .int 0, .ref s17, .int 0, .ref s19, .ref s20, .int (-1), .int 0, .int 0, .int 0, .int 0, .int 0, .ref s27, .int 0, .ref s29, .ref s30, .ref s31, .int 0, .int 0, .int 0, .ref s35, .ref s36, .ref s37, .long 0, .ref s39, .ref s40, .ref s41, .ref s42])), (s0, .inl (k0, 400, .inl f_3))] := hD
  refine lv_aload_n hx hb dX12_four_20 rfl (lv_at hl 1 rfl) ?_
  refine lv_dup hx hb dX12_four_21 rfl ?_
  refine va_get (D := (dC, dI)) (ci := 12) (v := .int 8) (C := RX12) (T := TX12) (N := 43) hx hb hq inX12 hown hK hP 0 rfl rfl 1 (by decide) (hq _ qw_1161) (fun _ h9 => h9) rfl dX12_four_22 ?_
  refine lv_iconst (v := 1) hx hb dX12_four_25 (by decide) ?_
  refine lv_iadd hx hb dX12_four_26 ?_
  refine lv_topi (fun y_4 ey_4 => ?_)
  obtain rfl : y_4 = 9 := ey_4.trans (by decide)
  refine va_put (D := (dC, dI)) (ci := 12) (v := .int 9) (ty := .int) (C := RX12) (T := TX12) (N := 43) hx hb hq inX12 tyX12 tyX12_ok nmX12 hown hK hP hD hS 0 rfl rfl 1 (by decide) (hq _ qw_1161) (fun _ h9 => h9) rfl (by decide +kernel) rfl rfl (Nat.le_of_ble_eq_true rfl) dX12_four_27 (fun H locs hP hD hS => ?_)
  have hP : va_P (dC, dI) classes [(h0, .inr (12, [.ref s0, .int 9, .int 0, .ref s3, .ref s4, .ref s5, .ref s6, .ref s7, .int 0, .int 0, .int 0, .int 0, .int 0, .int 0, .int 0, .ref s15, .int 0, .ref s17, .int 0, .ref s19, .ref s20, .int (-1), .int 0, .int 0, .int 0, .int 0, .int 0, .ref s27, .int 0, .ref s29, .ref s30, .ref s31, .int 0, .int 0, .int 0, .ref s35, .ref s36, .ref s37, .long 0, .ref s39, .ref s40, .ref s41, .ref s42])), (s0, .inl (k0, 400, .inl f_3))] H := hP
  have hD : va_D A [(h0, .inr (12, [.ref s0, .int 9, .int 0, .ref s3, .ref s4, .ref s5, .ref s6, .ref s7, .int 0, .int 0, .int 0, .int 0, .int 0, .int 0, .int 0, .ref s15, .int 0, .ref s17, .int 0, .ref s19, .ref s20, .int (-1), .int 0, .int 0, .int 0, .int 0, .int 0, .ref s27, .int 0, .ref s29, .ref s30, .ref s31, .int 0, .int 0, .int 0, .ref s35, .ref s36, .ref s37, .long 0, .ref s39, .ref s40, .ref s41, .ref s42])), (s0, .inl (k0, 400, .inl f_3))] := hD
  refine lv_iinc (v := 16) (lv' := [(2, .int 16), (0, .ref h0), (1, .int x0)]) hx hb dX12_four_30 hl (k := 0) rfl (by decide) (by decide) rfl (fun ls hl => ?_)
  refine lv_goto (tgt := 3) hx hb dX12_four_33 (by decide) ?_
  refine lv_iload_n hx hb dX12_four_3 rfl (lv_at hl 0 rfl) ?_
  refine lv_if_lt (tgt := 36) hx hb dX12_four_4 (by decide) (fun c9 => absurd c9 (by decide)) (fun _ => ?_)
  refine lv_aload_n hx hb dX12_four_7 rfl (lv_at hl 1 rfl) ?_
  refine va_get (D := (dC, dI)) (ci := 12) (v := .ref s0) (C := RX12) (T := TX12) (N := 43) hx hb hq inX12 hown hK hP 0 rfl rfl 0 (by decide) (hq _ qw_1160) (fun _ h9 => h9) rfl dX12_four_8 ?_
  refine lv_aload_n hx hb dX12_four_11 rfl (lv_at hl 1 rfl) ?_
  refine va_get (D := (dC, dI)) (ci := 12) (v := .int 9) (C := RX12) (T := TX12) (N := 43) hx hb hq inX12 hown hK hP 0 rfl rfl 1 (by decide) (hq _ qw_1161) (fun _ h9 => h9) rfl dX12_four_12 ?_
  refine lv_iload_n hx hb dX12_four_15 rfl (lv_at hl 2 rfl) ?_
  refine lv_iload_n hx hb dX12_four_16 rfl (lv_at hl 0 rfl) ?_
  refine lv_ishr hx hb dX12_four_17 ?_
  refine lv_topi (fun y_5 ey_5 => ?_)
  refine lv_i2b hx hb dX12_four_18 rfl ?_
  refine lv_topi (fun y_6 ey_6 => ?_)
  refine va_bast hx hb hK hP hD hS 1 0 rfl rfl (inr_ok rfl) dX12_four_19 (fun H locs hP hD hS => ?_)
  generalize upd f_3 (Int32.toNatClampNeg 9) (vp_nar .byte y_6) = f_7 at hP hD
  have hP : va_P (dC, dI) classes [(h0, .inr (12, [.ref s0, .int 9, .int 0, .ref s3, .ref s4, .ref s5, .ref s6, .ref s7, .int 0, .int 0, .int 0, .int 0, .int 0, .int 0, .int 0, .ref s15, .int 0, .ref s17, .int 0, .ref s19, .ref s20, .int (-1), .int 0, .int 0, .int 0, .int 0, .int 0, .ref s27, .int 0, .ref s29, .ref s30, .ref s31, .int 0, .int 0, .int 0, .ref s35, .ref s36, .ref s37, .long 0, .ref s39, .ref s40, .ref s41, .ref s42])), (s0, .inl (k0, 400, .inl f_7))] H := hP
  have hD : va_D A [(h0, .inr (12, [.ref s0, .int 9, .int 0, .ref s3, .ref s4, .ref s5, .ref s6, .ref s7, .int 0, .int 0, .int 0, .int 0, .int 0, .int 0, .int 0, .ref s15, .int 0, .ref s17, .int 0, .ref s19, .ref s20, .int (-1), .int 0, .int 0, .int 0, .int 0, .int 0, .ref s27, .int 0, .ref s29, .ref s30, .ref s31, .int 0, .int 0, .int 0, .ref s35, .ref s36, .ref s37, .long 0, .ref s39, .ref s40, .ref s41, .ref s42])), (s0, .inl (k0, 400, .inl f_7))] := hD
  refine lv_aload_n hx hb dX12_four_20 rfl (lv_at hl 1 rfl) ?_
  refine lv_dup hx hb dX12_four_21 rfl ?_
  refine va_get (D := (dC, dI)) (ci := 12) (v := .int 9) (C := RX12) (T := TX12) (N := 43) hx hb hq inX12 hown hK hP 0 rfl rfl 1 (by decide) (hq _ qw_1161) (fun _ h9 => h9) rfl dX12_four_22 ?_
  refine lv_iconst (v := 1) hx hb dX12_four_25 (by decide) ?_
  refine lv_iadd hx hb dX12_four_26 ?_
  refine lv_topi (fun y_8 ey_8 => ?_)
  obtain rfl : y_8 = 10 := ey_8.trans (by decide)
  refine va_put (D := (dC, dI)) (ci := 12) (v := .int 10) (ty := .int) (C := RX12) (T := TX12) (N := 43) hx hb hq inX12 tyX12 tyX12_ok nmX12 hown hK hP hD hS 0 rfl rfl 1 (by decide) (hq _ qw_1161) (fun _ h9 => h9) rfl (by decide +kernel) rfl rfl (Nat.le_of_ble_eq_true rfl) dX12_four_27 (fun H locs hP hD hS => ?_)
  have hP : va_P (dC, dI) classes [(h0, .inr (12, [.ref s0, .int 10, .int 0, .ref s3, .ref s4, .ref s5, .ref s6, .ref s7, .int 0, .int 0, .int 0, .int 0, .int 0, .int 0, .int 0, .ref s15, .int 0, .ref s17, .int 0, .ref s19, .ref s20, .int (-1), .int 0, .int 0, .int 0, .int 0, .int 0, .ref s27, .int 0, .ref s29, .ref s30, .ref s31, .int 0, .int 0, .int 0, .ref s35, .ref s36, .ref s37, .long 0, .ref s39, .ref s40, .ref s41, .ref s42])), (s0, .inl (k0, 400, .inl f_7))] H := hP
  have hD : va_D A [(h0, .inr (12, [.ref s0, .int 10, .int 0, .ref s3, .ref s4, .ref s5, .ref s6, .ref s7, .int 0, .int 0, .int 0, .int 0, .int 0, .int 0, .int 0, .ref s15, .int 0, .ref s17, .int 0, .ref s19, .ref s20, .int (-1), .int 0, .int 0, .int 0, .int 0, .int 0, .ref s27, .int 0, .ref s29, .ref s30, .ref s31, .int 0, .int 0, .int 0, .ref s35, .ref s36, .ref s37, .long 0, .ref s39, .ref s40, .ref s41, .ref s42])), (s0, .inl (k0, 400, .inl f_7))] := hD
  refine lv_iinc (v := 8) (lv' := [(2, .int 8), (0, .ref h0), (1, .int x0)]) hx hb dX12_four_30 hl (k := 0) rfl (by decide) (by decide) rfl (fun ls hl => ?_)
  refine lv_goto (tgt := 3) hx hb dX12_four_33 (by decide) ?_
  refine lv_iload_n hx hb dX12_four_3 rfl (lv_at hl 0 rfl) ?_
  refine lv_if_lt (tgt := 36) hx hb dX12_four_4 (by decide) (fun c9 => absurd c9 (by decide)) (fun _ => ?_)
  refine lv_aload_n hx hb dX12_four_7 rfl (lv_at hl 1 rfl) ?_
  refine va_get (D := (dC, dI)) (ci := 12) (v := .ref s0) (C := RX12) (T := TX12) (N := 43) hx hb hq inX12 hown hK hP 0 rfl rfl 0 (by decide) (hq _ qw_1160) (fun _ h9 => h9) rfl dX12_four_8 ?_
  refine lv_aload_n hx hb dX12_four_11 rfl (lv_at hl 1 rfl) ?_
  refine va_get (D := (dC, dI)) (ci := 12) (v := .int 10) (C := RX12) (T := TX12) (N := 43) hx hb hq inX12 hown hK hP 0 rfl rfl 1 (by decide) (hq _ qw_1161) (fun _ h9 => h9) rfl dX12_four_12 ?_
  refine lv_iload_n hx hb dX12_four_15 rfl (lv_at hl 2 rfl) ?_
  refine lv_iload_n hx hb dX12_four_16 rfl (lv_at hl 0 rfl) ?_
  refine lv_ishr hx hb dX12_four_17 ?_
  refine lv_topi (fun y_9 ey_9 => ?_)
  refine lv_i2b hx hb dX12_four_18 rfl ?_
  refine lv_topi (fun y_10 ey_10 => ?_)
  refine va_bast hx hb hK hP hD hS 1 0 rfl rfl (inr_ok rfl) dX12_four_19 (fun H locs hP hD hS => ?_)
  generalize upd f_7 (Int32.toNatClampNeg 10) (vp_nar .byte y_10) = f_11 at hP hD
  have hP : va_P (dC, dI) classes [(h0, .inr (12, [.ref s0, .int 10, .int 0, .ref s3, .ref s4, .ref s5, .ref s6, .ref s7, .int 0, .int 0, .int 0, .int 0, .int 0, .int 0, .int 0, .ref s15, .int 0, .ref s17, .int 0, .ref s19, .ref s20, .int (-1), .int 0, .int 0, .int 0, .int 0, .int 0, .ref s27, .int 0, .ref s29, .ref s30, .ref s31, .int 0, .int 0, .int 0, .ref s35, .ref s36, .ref s37, .long 0, .ref s39, .ref s40, .ref s41, .ref s42])), (s0, .inl (k0, 400, .inl f_11))] H := hP
  have hD : va_D A [(h0, .inr (12, [.ref s0, .int 10, .int 0, .ref s3, .ref s4, .ref s5, .ref s6, .ref s7, .int 0, .int 0, .int 0, .int 0, .int 0, .int 0, .int 0, .ref s15, .int 0, .ref s17, .int 0, .ref s19, .ref s20, .int (-1), .int 0, .int 0, .int 0, .int 0, .int 0, .ref s27, .int 0, .ref s29, .ref s30, .ref s31, .int 0, .int 0, .int 0, .ref s35, .ref s36, .ref s37, .long 0, .ref s39, .ref s40, .ref s41, .ref s42])), (s0, .inl (k0, 400, .inl f_11))] := hD
  refine lv_aload_n hx hb dX12_four_20 rfl (lv_at hl 1 rfl) ?_
  refine lv_dup hx hb dX12_four_21 rfl ?_
  refine va_get (D := (dC, dI)) (ci := 12) (v := .int 10) (C := RX12) (T := TX12) (N := 43) hx hb hq inX12 hown hK hP 0 rfl rfl 1 (by decide) (hq _ qw_1161) (fun _ h9 => h9) rfl dX12_four_22 ?_
  refine lv_iconst (v := 1) hx hb dX12_four_25 (by decide) ?_
  refine lv_iadd hx hb dX12_four_26 ?_
  refine lv_topi (fun y_12 ey_12 => ?_)
  obtain rfl : y_12 = 11 := ey_12.trans (by decide)
  refine va_put (D := (dC, dI)) (ci := 12) (v := .int 11) (ty := .int) (C := RX12) (T := TX12) (N := 43) hx hb hq inX12 tyX12 tyX12_ok nmX12 hown hK hP hD hS 0 rfl rfl 1 (by decide) (hq _ qw_1161) (fun _ h9 => h9) rfl (by decide +kernel) rfl rfl (Nat.le_of_ble_eq_true rfl) dX12_four_27 (fun H locs hP hD hS => ?_)
  have hP : va_P (dC, dI) classes [(h0, .inr (12, [.ref s0, .int 11, .int 0, .ref s3, .ref s4, .ref s5, .ref s6, .ref s7, .int 0, .int 0, .int 0, .int 0, .int 0, .int 0, .int 0, .ref s15, .int 0, .ref s17, .int 0, .ref s19, .ref s20, .int (-1), .int 0, .int 0, .int 0, .int 0, .int 0, .ref s27, .int 0, .ref s29, .ref s30, .ref s31, .int 0, .int 0, .int 0, .ref s35, .ref s36, .ref s37, .long 0, .ref s39, .ref s40, .ref s41, .ref s42])), (s0, .inl (k0, 400, .inl f_11))] H := hP
  have hD : va_D A [(h0, .inr (12, [.ref s0, .int 11, .int 0, .ref s3, .ref s4, .ref s5, .ref s6, .ref s7, .int 0, .int 0, .int 0, .int 0, .int 0, .int 0, .int 0, .ref s15, .int 0, .ref s17, .int 0, .ref s19, .ref s20, .int (-1), .int 0, .int 0, .int 0, .int 0, .int 0, .ref s27, .int 0, .ref s29, .ref s30, .ref s31, .int 0, .int 0, .int 0, .ref s35, .ref s36, .ref s37, .long 0, .ref s39, .ref s40, .ref s41, .ref s42])), (s0, .inl (k0, 400, .inl f_11))] := hD
  refine lv_iinc (v := 0) (lv' := [(2, .int 0), (0, .ref h0), (1, .int x0)]) hx hb dX12_four_30 hl (k := 0) rfl (by decide) (by decide) rfl (fun ls hl => ?_)
  refine lv_goto (tgt := 3) hx hb dX12_four_33 (by decide) ?_
  refine lv_iload_n hx hb dX12_four_3 rfl (lv_at hl 0 rfl) ?_
  refine lv_if_lt (tgt := 36) hx hb dX12_four_4 (by decide) (fun c9 => absurd c9 (by decide)) (fun _ => ?_)
  refine lv_aload_n hx hb dX12_four_7 rfl (lv_at hl 1 rfl) ?_
  refine va_get (D := (dC, dI)) (ci := 12) (v := .ref s0) (C := RX12) (T := TX12) (N := 43) hx hb hq inX12 hown hK hP 0 rfl rfl 0 (by decide) (hq _ qw_1160) (fun _ h9 => h9) rfl dX12_four_8 ?_
  refine lv_aload_n hx hb dX12_four_11 rfl (lv_at hl 1 rfl) ?_
  refine va_get (D := (dC, dI)) (ci := 12) (v := .int 11) (C := RX12) (T := TX12) (N := 43) hx hb hq inX12 hown hK hP 0 rfl rfl 1 (by decide) (hq _ qw_1161) (fun _ h9 => h9) rfl dX12_four_12 ?_
  refine lv_iload_n hx hb dX12_four_15 rfl (lv_at hl 2 rfl) ?_
  refine lv_iload_n hx hb dX12_four_16 rfl (lv_at hl 0 rfl) ?_
  refine lv_ishr hx hb dX12_four_17 ?_
  refine lv_topi (fun y_13 ey_13 => ?_)
  refine lv_i2b hx hb dX12_four_18 rfl ?_
  refine lv_topi (fun y_14 ey_14 => ?_)
  refine va_bast hx hb hK hP hD hS 1 0 rfl rfl (inr_ok rfl) dX12_four_19 (fun H locs hP hD hS => ?_)
  generalize upd f_11 (Int32.toNatClampNeg 11) (vp_nar .byte y_14) = f_15 at hP hD
  have hP : va_P (dC, dI) classes [(h0, .inr (12, [.ref s0, .int 11, .int 0, .ref s3, .ref s4, .ref s5, .ref s6, .ref s7, .int 0, .int 0, .int 0, .int 0, .int 0, .int 0, .int 0, .ref s15, .int 0, .ref s17, .int 0, .ref s19, .ref s20, .int (-1), .int 0, .int 0, .int 0, .int 0, .int 0, .ref s27, .int 0, .ref s29, .ref s30, .ref s31, .int 0, .int 0, .int 0, .ref s35, .ref s36, .ref s37, .long 0, .ref s39, .ref s40, .ref s41, .ref s42])), (s0, .inl (k0, 400, .inl f_15))] H := hP
  have hD : va_D A [(h0, .inr (12, [.ref s0, .int 11, .int 0, .ref s3, .ref s4, .ref s5, .ref s6, .ref s7, .int 0, .int 0, .int 0, .int 0, .int 0, .int 0, .int 0, .ref s15, .int 0, .ref s17, .int 0, .ref s19, .ref s20, .int (-1), .int 0, .int 0, .int 0, .int 0, .int 0, .ref s27, .int 0, .ref s29, .ref s30, .ref s31, .int 0, .int 0, .int 0, .ref s35, .ref s36, .ref s37, .long 0, .ref s39, .ref s40, .ref s41, .ref s42])), (s0, .inl (k0, 400, .inl f_15))] := hD
  refine lv_aload_n hx hb dX12_four_20 rfl (lv_at hl 1 rfl) ?_
  refine lv_dup hx hb dX12_four_21 rfl ?_
  refine va_get (D := (dC, dI)) (ci := 12) (v := .int 11) (C := RX12) (T := TX12) (N := 43) hx hb hq inX12 hown hK hP 0 rfl rfl 1 (by decide) (hq _ qw_1161) (fun _ h9 => h9) rfl dX12_four_22 ?_
  refine lv_iconst (v := 1) hx hb dX12_four_25 (by decide) ?_
  refine lv_iadd hx hb dX12_four_26 ?_
  refine lv_topi (fun y_16 ey_16 => ?_)
  obtain rfl : y_16 = 12 := ey_16.trans (by decide)
  refine va_put (D := (dC, dI)) (ci := 12) (v := .int 12) (ty := .int) (C := RX12) (T := TX12) (N := 43) hx hb hq inX12 tyX12 tyX12_ok nmX12 hown hK hP hD hS 0 rfl rfl 1 (by decide) (hq _ qw_1161) (fun _ h9 => h9) rfl (by decide +kernel) rfl rfl (Nat.le_of_ble_eq_true rfl) dX12_four_27 (fun H locs hP hD hS => ?_)
  have hP : va_P (dC, dI) classes [(h0, .inr (12, [.ref s0, .int 12, .int 0, .ref s3, .ref s4, .ref s5, .ref s6, .ref s7, .int 0, .int 0, .int 0, .int 0, .int 0, .int 0, .int 0, .ref s15, .int 0, .ref s17, .int 0, .ref s19, .ref s20, .int (-1), .int 0, .int 0, .int 0, .int 0, .int 0, .ref s27, .int 0, .ref s29, .ref s30, .ref s31, .int 0, .int 0, .int 0, .ref s35, .ref s36, .ref s37, .long 0, .ref s39, .ref s40, .ref s41, .ref s42])), (s0, .inl (k0, 400, .inl f_15))] H := hP
  have hD : va_D A [(h0, .inr (12, [.ref s0, .int 12, .int 0, .ref s3, .ref s4, .ref s5, .ref s6, .ref s7, .int 0, .int 0, .int 0, .int 0, .int 0, .int 0, .int 0, .ref s15, .int 0, .ref s17, .int 0, .ref s19, .ref s20, .int (-1), .int 0, .int 0, .int 0, .int 0, .int 0, .ref s27, .int 0, .ref s29, .ref s30, .ref s31, .int 0, .int 0, .int 0, .ref s35, .ref s36, .ref s37, .long 0, .ref s39, .ref s40, .ref s41, .ref s42])), (s0, .inl (k0, 400, .inl f_15))] := hD
  refine lv_iinc (v := (-8)) (lv' := [(2, .int (-8)), (0, .ref h0), (1, .int x0)]) hx hb dX12_four_30 hl (k := 0) rfl (by decide) (by decide) rfl (fun ls hl => ?_)
  refine lv_goto (tgt := 3) hx hb dX12_four_33 (by decide) ?_
  refine lv_iload_n hx hb dX12_four_3 rfl (lv_at hl 0 rfl) ?_
  refine lv_if_lt (tgt := 36) hx hb dX12_four_4 (by decide) (fun _ => ?_) (fun c9 => absurd c9 (by decide))
  have hP9 := hP.sub (ws' := [(h0, .inr (12, [.ref s0, .int 12, .int 0, .ref s3, .ref s4, .ref s5, .ref s6, .ref s7, .int 0, .int 0, .int 0, .int 0, .int 0, .int 0, .int 0, .ref s15, .int 0, .ref s17, .int 0, .ref s19, .ref s20, .int (-1), .int 0, .int 0, .int 0, .int 0, .int 0, .ref s27, .int 0, .ref s29, .ref s30, .ref s31, .int 0, .int 0, .int 0, .ref s35, .ref s36, .ref s37, .long 0, .ref s39, .ref s40, .ref s41, .ref s42])), (s0, .inl (k0, 400, .inl f_15))]) [0, 1] rfl
  have hD9 := hD.sub (ws' := [(h0, .inr (12, [.ref s0, .int 12, .int 0, .ref s3, .ref s4, .ref s5, .ref s6, .ref s7, .int 0, .int 0, .int 0, .int 0, .int 0, .int 0, .int 0, .ref s15, .int 0, .ref s17, .int 0, .ref s19, .ref s20, .int (-1), .int 0, .int 0, .int 0, .int 0, .int 0, .ref s27, .int 0, .ref s29, .ref s30, .ref s31, .int 0, .int 0, .int 0, .ref s35, .ref s36, .ref s37, .long 0, .ref s39, .ref s40, .ref s41, .ref s42])), (s0, .inl (k0, 400, .inl f_15))]) [0, 1] (by decide) rfl
  have hK9 := hK.sub (tys' := [(k0, .byte)]) [0] rfl
  refine W.widen (k := 0) (n := 0) (Nat.le_of_ble_eq_true rfl) (Nat.le_of_ble_eq_true rfl) ?_
  exact W.vret hx hb hr (fun t ht hW => ⟨⟨(), rfl, trivial, f_15, by rw [ht]; exact hP9, va_K.moved hW.alike hK9, hD9⟩, hS.F ht⟩) hS.2.2 dX12_four_36

set_option maxHeartbeats 4000000 in
set_option maxRecDepth 100000 in
/-- c_M_four_12 -/
theorem c_M_four_12 (l : Launch) (dC : Nat → ClassId) (dI : Nat → Nat → Nat) (sz : Nat) (h0 : Nat) (s0 : Nat) (s3 : Nat) (s4 : Nat) (s5 : Nat) (s6 : Nat) (s7 : Nat) (s15 : Nat) (s17 : Nat) (s19 : Nat) (s20 : Nat) (s27 : Nat) (s29 : Nat) (s30 : Nat) (s31 : Nat) (s35 : Nat) (s36 : Nat) (s37 : Nat) (s39 : Nat) (s40 : Nat) (s41 : Nat) (s42 : Nat) (k0 : ClassId) (g0 : Nat → Int32) (x0 : Int32) : Met l yX12_four (.code yX12_four cX12_four 3 none :: wsA) ({ frames := 0, cells := 0, slots := 0, locals := 0 }) (va_Pc [.ref h0, .int x0] (fun U => U.heap.size = sz ∧ va_P (dC, dI) classes [(h0, .inr (12, [.ref s0, .int 12, .int 0, .ref s3, .ref s4, .ref s5, .ref s6, .ref s7, .int 0, .int 0, .int 0, .int 0, .int 0, .int 0, .int 0, .ref s15, .int 0, .ref s17, .int 0, .ref s19, .ref s20, .int (-1), .int 0, .int 0, .int 0, .int 0, .int 0, .ref s27, .int 0, .ref s29, .ref s30, .ref s31, .int 0, .int 0, .int 0, .ref s35, .ref s36, .ref s37, .long 0, .ref s39, .ref s40, .ref s41, .ref s42])), (s0, .inl (k0, 400, .inl g0))] U.heap ∧ va_K (dC, dI) classes [(k0, .byte)] U ∧ va_D (fun _ => True) [(h0, .inr (12, [.ref s0, .int 12, .int 0, .ref s3, .ref s4, .ref s5, .ref s6, .ref s7, .int 0, .int 0, .int 0, .int 0, .int 0, .int 0, .int 0, .ref s15, .int 0, .ref s17, .int 0, .ref s19, .ref s20, .int (-1), .int 0, .int 0, .int 0, .int 0, .int 0, .ref s27, .int 0, .ref s29, .ref s30, .ref s31, .int 0, .int 0, .int 0, .ref s35, .ref s36, .ref s37, .long 0, .ref s39, .ref s40, .ref s41, .ref s42])), (s0, .inl (k0, 400, .inl g0))] ∧ xE U)) (va_Qv (fun (_ : Unit) => True) (fun _ t => ∃ (o_f_15 : Nat → Int32), va_P (dC, dI) classes [(h0, .inr (12, [.ref s0, .int 16, .int 0, .ref s3, .ref s4, .ref s5, .ref s6, .ref s7, .int 0, .int 0, .int 0, .int 0, .int 0, .int 0, .int 0, .ref s15, .int 0, .ref s17, .int 0, .ref s19, .ref s20, .int (-1), .int 0, .int 0, .int 0, .int 0, .int 0, .ref s27, .int 0, .ref s29, .ref s30, .ref s31, .int 0, .int 0, .int 0, .ref s35, .ref s36, .ref s37, .long 0, .ref s39, .ref s40, .ref s41, .ref s42])), (s0, .inl (k0, 400, .inl o_f_15))] t.heap ∧ va_K (dC, dI) classes [(k0, .byte)] t ∧ va_D (va_A [(h0, .inr (12, [.ref s0, .int 12, .int 0, .ref s3, .ref s4, .ref s5, .ref s6, .ref s7, .int 0, .int 0, .int 0, .int 0, .int 0, .int 0, .int 0, .ref s15, .int 0, .ref s17, .int 0, .ref s19, .ref s20, .int (-1), .int 0, .int 0, .int 0, .int 0, .int 0, .ref s27, .int 0, .ref s29, .ref s30, .ref s31, .int 0, .int 0, .int 0, .ref s35, .ref s36, .ref s37, .long 0, .ref s39, .ref s40, .ref s41, .ref s42])), (s0, .inl (k0, 400, .inl g0))] sz) [(h0, .inr (12, [.ref s0, .int 16, .int 0, .ref s3, .ref s4, .ref s5, .ref s6, .ref s7, .int 0, .int 0, .int 0, .int 0, .int 0, .int 0, .int 0, .ref s15, .int 0, .ref s17, .int 0, .ref s19, .ref s20, .int (-1), .int 0, .int 0, .int 0, .int 0, .int 0, .ref s27, .int 0, .ref s29, .ref s30, .ref s31, .int 0, .int 0, .int 0, .ref s35, .ref s36, .ref s37, .long 0, .ref s39, .ref s40, .ref s41, .ref s42])), (s0, .inl (k0, 400, .inl o_f_15))]) (va_A [(h0, .inr (12, [.ref s0, .int 12, .int 0, .ref s3, .ref s4, .ref s5, .ref s6, .ref s7, .int 0, .int 0, .int 0, .int 0, .int 0, .int 0, .int 0, .ref s15, .int 0, .ref s17, .int 0, .ref s19, .ref s20, .int (-1), .int 0, .int 0, .int 0, .int 0, .int 0, .ref s27, .int 0, .ref s29, .ref s30, .ref s31, .int 0, .int 0, .int 0, .ref s35, .ref s36, .ref s37, .long 0, .ref s39, .ref s40, .ref s41, .ref s42])), (s0, .inl (k0, 400, .inl g0))] sz)) 0 0 (va_A [(h0, .inr (12, [.ref s0, .int 12, .int 0, .ref s3, .ref s4, .ref s5, .ref s6, .ref s7, .int 0, .int 0, .int 0, .int 0, .int 0, .int 0, .int 0, .ref s15, .int 0, .ref s17, .int 0, .ref s19, .ref s20, .int (-1), .int 0, .int 0, .int 0, .int 0, .int 0, .ref s27, .int 0, .ref s29, .ref s30, .ref s31, .int 0, .int 0, .int 0, .ref s35, .ref s36, .ref s37, .long 0, .ref s39, .ref s40, .ref s41, .ref s42])), (s0, .inl (k0, 400, .inl g0))] sz) := by
  refine Met.ofW (cc := cX12_four) (maxL := 3) (ret := none) (by decide) rfl ?_
  intro p e s m args below meth c s₁ B hml hv
  obtain ⟨rfl, hsz, hP, hK, hD0, hE⟩ := hv
  have hx := B.exec
  have hb := B.bytes
  have hr := B.returns
  have hts := atoms_spec (ws := .code yX12_four cX12_four 3 none :: wsA) B.pre
  have hq : ∀ w ∈ wsA, w.before _ s = true := fun w h => hts w (List.mem_cons_of_mem _ h)
  have hown : s.vm.findClass RX12 = some m.cls := findClass_of_methodNamed B.named
  have hlocks := B.notSynchronized
  subst hsz
  have hD := hD0.self (sz := s.heap.size)
  generalize hAe : va_A [(h0, .inr (12, [.ref s0, .int 12, .int 0, .ref s3, .ref s4, .ref s5, .ref s6, .ref s7, .int 0, .int 0, .int 0, .int 0, .int 0, .int 0, .int 0, .ref s15, .int 0, .ref s17, .int 0, .ref s19, .ref s20, .int (-1), .int 0, .int 0, .int 0, .int 0, .int 0, .ref s27, .int 0, .ref s29, .ref s30, .ref s31, .int 0, .int 0, .int 0, .ref s35, .ref s36, .ref s37, .long 0, .ref s39, .ref s40, .ref s41, .ref s42])), (s0, .inl (k0, 400, .inl g0))] s.heap.size = A at hD ⊢
  have hA : ∀ q : Nat, s.heap.size ≤ q → A q := fun q h => by rw [← hAe]; exact Or.inr h
  have hS : va_S A s.heap s.heap [] := va_S.rf
  have hl := lv_entry ([.ref h0, .int x0]) (n := 3) (Nat.le_of_ble_eq_true rfl)
  rw [lg_entry_eq]
  generalize (lg_sl ([.ref h0, .int x0]) ++ List.replicate (3 - (lg_sl ([.ref h0, .int x0])).length) Slot.unset).toArray = ls at hl ⊢
  have hl : lv_has ls 3 [(0, .ref h0), (1, .int x0)] := hl
  refine lv_bipush (v := 24) hx hb dX12_four_0 (by decide) ?_
  refine lv_istore_n (lv' := [(2, .int 24), (0, .ref h0), (1, .int x0)]) hx hb dX12_four_2 rfl hl (by decide) rfl (fun ls hl => ?_)
  refine lv_iload_n hx hb dX12_four_3 rfl (lv_at hl 0 rfl) ?_
  refine lv_if_lt (tgt := 36) hx hb dX12_four_4 (by decide) (fun c9 => absurd c9 (by decide)) (fun _ => ?_)
  refine lv_aload_n hx hb dX12_four_7 rfl (lv_at hl 1 rfl) ?_
  refine va_get (D := (dC, dI)) (ci := 12) (v := .ref s0) (C := RX12) (T := TX12) (N := 43) hx hb hq inX12 hown hK hP 0 rfl rfl 0 (by decide) (hq _ qw_1160) (fun _ h9 => h9) rfl dX12_four_8 ?_
  refine lv_aload_n hx hb dX12_four_11 rfl (lv_at hl 1 rfl) ?_
  refine va_get (D := (dC, dI)) (ci := 12) (v := .int 12) (C := RX12) (T := TX12) (N := 43) hx hb hq inX12 hown hK hP 0 rfl rfl 1 (by decide) (hq _ qw_1161) (fun _ h9 => h9) rfl dX12_four_12 ?_
  refine lv_iload_n hx hb dX12_four_15 rfl (lv_at hl 2 rfl) ?_
  refine lv_iload_n hx hb dX12_four_16 rfl (lv_at hl 0 rfl) ?_
  refine lv_ishr hx hb dX12_four_17 ?_
  refine lv_topi (fun y_1 ey_1 => ?_)
  refine lv_i2b hx hb dX12_four_18 rfl ?_
  refine lv_topi (fun y_2 ey_2 => ?_)
  refine va_bast hx hb hK hP hD hS 1 0 rfl rfl (inr_ok rfl) dX12_four_19 (fun H locs hP hD hS => ?_)
  generalize upd g0 (Int32.toNatClampNeg 12) (vp_nar .byte y_2) = f_3 at hP hD
  have hP : va_P (dC, dI) classes [(h0, .inr (12, [.ref s0, .int 12, .int 0, .ref s3, .ref s4, .ref s5, .ref s6, .ref s7, .int 0, .int 0, .int 0, .int 0, .int 0, .int 0, .int 0, .ref s15, .int 0, .ref s17, .int 0, .ref s19, .ref s20, .int (-1), .int 0, .int 0, .int 0, .int 0, .int 0, .ref s27, .int 0, .ref s29, .ref s30, .ref s31, .int 0, .int 0, .int 0, .ref s35, .ref s36, .ref s37, .long 0, .ref s39, .ref s40, .ref s41, .ref s42])), (s0, .inl (k0, 400, .inl f_3))] H := hP
  have hD : va_D A [(h0, .inr (12, [.ref s0, .int 12, .int 0, .ref s3, .ref s4, .ref s5, .ref s6, .ref s7, .int 0, .int 0, .int 0, .int 0, .int 0, .int 0, .int 0, .ref s15, .int 0, .ref s17, .int 0, .ref s19, .ref s20, .int (-1), .int 0, .int 0, .int 0, .int 0, .int 0, .ref s27, .int 0, .ref s29, .ref s30, .ref s31, .int 0, .int 0, .int 0, .ref s35, .ref s36, .ref s37, .long 0, .ref s39, .ref s40, .ref s41, .ref s42])), (s0, .inl (k0, 400, .inl f_3))] := hD
  refine lv_aload_n hx hb dX12_four_20 rfl (lv_at hl 1 rfl) ?_
  refine lv_dup hx hb dX12_four_21 rfl ?_
  refine va_get (D := (dC, dI)) (ci := 12) (v := .int 12) (C := RX12) (T := TX12) (N := 43) hx hb hq inX12 hown hK hP 0 rfl rfl 1 (by decide) (hq _ qw_1161) (fun _ h9 => h9) rfl dX12_four_22 ?_
  refine lv_iconst (v := 1) hx hb dX12_four_25 (by decide) ?_
  refine lv_iadd hx hb dX12_four_26 ?_
  refine lv_topi (fun y_4 ey_4 => ?_)
  obtain rfl : y_4 = 13 := ey_4.trans (by decide)
  refine va_put (D := (dC, dI)) (ci := 12) (v := .int 13) (ty := .int) (C := RX12) (T := TX12) (N := 43) hx hb hq inX12 tyX12 tyX12_ok nmX12 hown hK hP hD hS 0 rfl rfl 1 (by decide) (hq _ qw_1161) (fun _ h9 => h9) rfl (by decide +kernel) rfl rfl (Nat.le_of_ble_eq_true rfl) dX12_four_27 (fun H locs hP hD hS => ?_)
  have hP : va_P (dC, dI) classes [(h0, .inr (12, [.ref s0, .int 13, .int 0, .ref s3, .ref s4, .ref s5, .ref s6, .ref s7, .int 0, .int 0, .int 0, .int 0, .int 0, .int 0, .int 0, .ref s15, .int 0, .ref s17, .int 0, .ref s19, .ref s20, .int (-1), .int 0, .int 0, .int 0, .int 0, .int 0, .ref s27, .int 0, .ref s29, .ref s30, .ref s31, .int 0, .int 0, .int 0, .ref s35, .ref s36, .ref s37, .long 0, .ref s39, .ref s40, .ref s41, .ref s42])), (s0, .inl (k0, 400, .inl f_3))] H := hP
  have hD : va_D A [(h0, .inr (12, [.ref s0, .int 13, .int 0, .ref s3, .ref s4, .ref s5, .ref s6, .ref s7, .int 0, .int 0, .int 0, .int 0, .int 0, .int 0, .int 0, .ref s15, .int 0, .ref s17, .int 0, .ref s19, .ref s20, .int (-1), .int 0, .int 0, .int 0, .int 0, .int 0, .ref s27, .int 0, .ref s29, .ref s30, .ref s31, .int 0, .int 0, .int 0, .ref s35, .ref s36, .ref s37, .long 0, .ref s39, .ref s40, .ref s41, .ref s42])), (s0, .inl (k0, 400, .inl f_3))] := hD
  refine lv_iinc (v := 16) (lv' := [(2, .int 16), (0, .ref h0), (1, .int x0)]) hx hb dX12_four_30 hl (k := 0) rfl (by decide) (by decide) rfl (fun ls hl => ?_)
  refine lv_goto (tgt := 3) hx hb dX12_four_33 (by decide) ?_
  refine lv_iload_n hx hb dX12_four_3 rfl (lv_at hl 0 rfl) ?_
  refine lv_if_lt (tgt := 36) hx hb dX12_four_4 (by decide) (fun c9 => absurd c9 (by decide)) (fun _ => ?_)
  refine lv_aload_n hx hb dX12_four_7 rfl (lv_at hl 1 rfl) ?_
  refine va_get (D := (dC, dI)) (ci := 12) (v := .ref s0) (C := RX12) (T := TX12) (N := 43) hx hb hq inX12 hown hK hP 0 rfl rfl 0 (by decide) (hq _ qw_1160) (fun _ h9 => h9) rfl dX12_four_8 ?_
  refine lv_aload_n hx hb dX12_four_11 rfl (lv_at hl 1 rfl) ?_
  refine va_get (D := (dC, dI)) (ci := 12) (v := .int 13) (C := RX12) (T := TX12) (N := 43) hx hb hq inX12 hown hK hP 0 rfl rfl 1 (by decide) (hq _ qw_1161) (fun _ h9 => h9) rfl dX12_four_12 ?_
  refine lv_iload_n hx hb dX12_four_15 rfl (lv_at hl 2 rfl) ?_
  refine lv_iload_n hx hb dX12_four_16 rfl (lv_at hl 0 rfl) ?_
  refine lv_ishr hx hb dX12_four_17 ?_
  refine lv_topi (fun y_5 ey_5 => ?_)
  refine lv_i2b hx hb dX12_four_18 rfl ?_
  refine lv_topi (fun y_6 ey_6 => ?_)
  refine va_bast hx hb hK hP hD hS 1 0 rfl rfl (inr_ok rfl) dX12_four_19 (fun H locs hP hD hS => ?_)
  generalize upd f_3 (Int32.toNatClampNeg 13) (vp_nar .byte y_6) = f_7 at hP hD
  have hP : va_P (dC, dI) classes [(h0, .inr (12, [.ref s0, .int 13, .int 0, .ref s3, .ref s4, .ref s5, .ref s6, .ref s7, .int 0, .int 0, .int 0, .int 0, .int 0, .int 0, .int 0, .ref s15, .int 0, .ref s17, .int 0, .ref s19, .ref s20, .int (-1), .int 0, .int 0, .int 0, .int 0, .int 0, .ref s27, .int 0, .ref s29, .ref s30, .ref s31, .int 0, .int 0, .int 0, .ref s35, .ref s36, .ref s37, .long 0, .ref s39, .ref s40, .ref s41, .ref s42])), (s0, .inl (k0, 400, .inl f_7))] H := hP
  have hD : va_D A [(h0, .inr (12, [.ref s0, .int 13, .int 0, .ref s3, .ref s4, .ref s5, .ref s6, .ref s7, .int 0, .int 0, .int 0, .int 0, .int 0, .int 0, .int 0, .ref s15, .int 0, .ref s17, .int 0, .ref s19, .ref s20, .int (-1), .int 0, .int 0, .int 0, .int 0, .int 0, .ref s27, .int 0, .ref s29, .ref s30, .ref s31, .int 0, .int 0, .int 0, .ref s35, .ref s36, .ref s37, .long 0, .ref s39, .ref s40, .ref s41, .ref s42])), (s0, .inl (k0, 400, .inl f_7))] := hD
  refine lv_aload_n hx hb dX12_four_20 rfl (lv_at hl 1 rfl) ?_
  refine lv_dup hx hb dX12_four_21 rfl ?_
  refine va_get (D := (dC, dI)) (ci := 12) (v := .int 13) (C := RX12) (T := TX12) (N := 43) hx hb hq inX12 hown hK hP 0 rfl rfl 1 (by decide) (hq _ qw_1161) (fun _ h9 => h9) rfl dX12_four_22 ?_
  refine lv_iconst (v := 1) hx hb dX12_four_25 (by decide) ?_
  refine lv_iadd hx hb dX12_four_26 ?_
  refine lv_topi (fun y_8 ey_8 => ?_)
  obtain rfl : y_8 = 14 := ey_8.trans (by decide)
  refine va_put (D := (dC, dI)) (ci := 12) (v := .int 14) (ty := .int) (C := RX12) (T := TX12) (N := 43) hx hb hq inX12 tyX12 tyX12_ok nmX12 hown hK hP hD hS 0 rfl rfl 1 (by decide) (hq _ qw_1161) (fun _ h9 => h9) rfl (by decide +kernel) rfl rfl (Nat.le_of_ble_eq_true rfl) dX12_four_27 (fun H locs hP hD hS => ?_)
  have hP : va_P (dC, dI) classes [(h0, .inr (12, [.ref s0, .int 14, .int 0, .ref s3, .ref s4, .ref s5, .ref s6, .ref s7, .int 0, .int 0, .int 0, .int 0, .int 0, .int 0, .int 0, .ref s15, .int 0, .ref s17, .int 0, .ref s19, .ref s20, .int (-1), .int 0, .int 0, .int 0, .int 0, .int 0, .ref s27, .int 0, .ref s29, .ref s30, .ref s31, .int 0, .int 0, .int 0, .ref s35, .ref s36, .ref s37, .long 0, .ref s39, .ref s40, .ref s41, .ref s42])), (s0, .inl (k0, 400, .inl f_7))] H := hP
  have hD : va_D A [(h0, .inr (12, [.ref s0, .int 14, .int 0, .ref s3, .ref s4, .ref s5, .ref s6, .ref s7, .int 0, .int 0, .int 0, .int 0, .int 0, .int 0, .int 0, .ref s15, .int 0, .ref s17, .int 0, .ref s19, .ref s20, .int (-1), .int 0, .int 0, .int 0, .int 0, .int 0, .ref s27, .int 0, .ref s29, .ref s30, .ref s31, .int 0, .int 0, .int 0, .ref s35, .ref s36, .ref s37, .long 0, .ref s39, .ref s40, .ref s41, .ref s42])), (s0, .inl (k0, 400, .inl f_7))] := hD
  refine lv_iinc (v := 8) (lv' := [(2, .int 8), (0, .ref h0), (1, .int x0)]) hx hb dX12_four_30 hl (k := 0) rfl (by decide) (by decide) rfl (fun ls hl => ?_)
  refine lv_goto (tgt := 3) hx hb dX12_four_33 (by decide) ?_
  refine lv_iload_n hx hb dX12_four_3 rfl (lv_at hl 0 rfl) ?_
  refine lv_if_lt (tgt := 36) hx hb dX12_four_4 (by decide) (fun c9 => absurd c9 (by decide)) (fun _ => ?_)
  refine lv_aload_n hx hb dX12_four_7 rfl (lv_at hl 1 rfl) ?_
  refine va_get (D := (dC, dI)) (ci := 12) (v := .ref s0) (C := RX12) (T := TX12) (N := 43) hx hb hq inX12 hown hK hP 0 rfl rfl 0 (by decide) (hq _ qw_1160) (fun _ h9 => h9) rfl dX12_four_8 ?_
  refine lv_aload_n hx hb dX12_four_11 rfl (lv_at hl 1 rfl) ?_
  refine va_get (D := (dC, dI)) (ci := 12) (v := .int 14) (C := RX12) (T := TX12) (N := 43) hx hb hq inX12 hown hK hP 0 rfl rfl 1 (by decide) (hq _ qw_1161) (fun _ h9 => h9) rfl dX12_four_12 ?_
  refine lv_iload_n hx hb dX12_four_15 rfl (lv_at hl 2 rfl) ?_
  refine lv_iload_n hx hb dX12_four_16 rfl (lv_at hl 0 rfl) ?_
  refine lv_ishr hx hb dX12_four_17 ?_
  refine lv_topi (fun y_9 ey_9 => ?_)
  refine lv_i2b hx hb dX12_four_18 rfl ?_
  refine lv_topi (fun y_10 ey_10 => ?_)
  refine va_bast hx hb hK hP hD hS 1 0 rfl rfl (inr_ok rfl) dX12_four_19 (fun H locs hP hD hS => ?_)
  generalize upd f_7 (Int32.toNatClampNeg 14) (vp_nar .byte y_10) = f_11 at hP hD
  have hP : va_P (dC, dI) classes [(h0, .inr (12, [.ref s0, .int 14, .int 0, .ref s3, .ref s4, .ref s5, .ref s6, .ref s7, .int 0, .int 0, .int 0, .int 0, .int 0, .int 0, .int 0, .ref s15, .int 0, .ref s17, .int 0, .ref s19, .ref s20, .int (-1), .int 0, .int 0, .int 0, .int 0, .int 0, .ref s27, .int 0, .ref s29, .ref s30, .ref s31, .int 0, .int 0, .int 0, .ref s35, .ref s36, .ref s37, .long 0, .ref s39, .ref s40, .ref s41, .ref s42])), (s0, .inl (k0, 400, .inl f_11))] H := hP
  have hD : va_D A [(h0, .inr (12, [.ref s0, .int 14, .int 0, .ref s3, .ref s4, .ref s5, .ref s6, .ref s7, .int 0, .int 0, .int 0, .int 0, .int 0, .int 0, .int 0, .ref s15, .int 0, .ref s17, .int 0, .ref s19, .ref s20, .int (-1), .int 0, .int 0, .int 0, .int 0, .int 0, .ref s27, .int 0, .ref s29, .ref s30, .ref s31, .int 0, .int 0, .int 0, .ref s35, .ref s36, .ref s37, .long 0, .ref s39, .ref s40, .ref s41, .ref s42])), (s0, .inl (k0, 400, .inl f_11))] := hD
  refine lv_aload_n hx hb dX12_four_20 rfl (lv_at hl 1 rfl) ?_
  refine lv_dup hx hb dX12_four_21 rfl ?_
  refine va_get (D := (dC, dI)) (ci := 12) (v := .int 14) (C := RX12) (T := TX12) (N := 43) hx hb hq inX12 hown hK hP 0 rfl rfl 1 (by decide) (hq _ qw_1161) (fun _ h9 => h9) rfl dX12_four_22 ?_
  refine lv_iconst (v := 1) hx hb dX12_four_25 (by decide) ?_
  refine lv_iadd hx hb dX12_four_26 ?_
  refine lv_topi (fun y_12 ey_12 => ?_)
  obtain rfl : y_12 = 15 := ey_12.trans (by decide)
  refine va_put (D := (dC, dI)) (ci := 12) (v := .int 15) (ty := .int) (C := RX12) (T := TX12) (N := 43) hx hb hq inX12 tyX12 tyX12_ok nmX12 hown hK hP hD hS 0 rfl rfl 1 (by decide) (hq _ qw_1161) (fun _ h9 => h9) rfl (by decide +kernel) rfl rfl (Nat.le_of_ble_eq_true rfl) dX12_four_27 (fun H locs hP hD hS => ?_)
  have hP : va_P (dC, dI) classes [(h0, .inr (12, [.ref s0, .int 15, .int 0, .ref s3, .ref s4, .ref s5, .ref s6, .ref s7, .int 0, .int 0, .int 0, .int 0, .int 0, .int 0, .int 0, .ref s15, .int 0, .ref s17, .int 0, .ref s19, .ref s20, .int (-1), .int 0, .int 0, .int 0, .int 0, .int 0, .ref s27, .int 0, .ref s29, .ref s30, .ref s31, .int 0, .int 0, .int 0, .ref s35, .ref s36, .ref s37, .long 0, .ref s39, .ref s40, .ref s41, .ref s42])), (s0, .inl (k0, 400, .inl f_11))] H := hP
  have hD : va_D A [(h0, .inr (12, [.ref s0, .int 15, .int 0, .ref s3, .ref s4, .ref s5, .ref s6, .ref s7, .int 0, .int 0, .int 0, .int 0, .int 0, .int 0, .int 0, .ref s15, .int 0, .ref s17, .int 0, .ref s19, .ref s20, .int (-1), .int 0, .int 0, .int 0, .int 0, .int 0, .ref s27, .int 0, .ref s29, .ref s30, .ref s31, .int 0, .int 0, .int 0, .ref s35, .ref s36, .ref s37, .long 0, .ref s39, .ref s40, .ref s41, .ref s42])), (s0, .inl (k0, 400, .inl f_11))] := hD
  refine lv_iinc (v := 0) (lv' := [(2, .int 0), (0, .ref h0), (1, .int x0)]) hx hb dX12_four_30 hl (k := 0) rfl (by decide) (by decide) rfl (fun ls hl => ?_)
  refine lv_goto (tgt := 3) hx hb dX12_four_33 (by decide) ?_
  refine lv_iload_n hx hb dX12_four_3 rfl (lv_at hl 0 rfl) ?_
  refine lv_if_lt (tgt := 36) hx hb dX12_four_4 (by decide) (fun c9 => absurd c9 (by decide)) (fun _ => ?_)
  refine lv_aload_n hx hb dX12_four_7 rfl (lv_at hl 1 rfl) ?_
  refine va_get (D := (dC, dI)) (ci := 12) (v := .ref s0) (C := RX12) (T := TX12) (N := 43) hx hb hq inX12 hown hK hP 0 rfl rfl 0 (by decide) (hq _ qw_1160) (fun _ h9 => h9) rfl dX12_four_8 ?_
  refine lv_aload_n hx hb dX12_four_11 rfl (lv_at hl 1 rfl) ?_
  refine va_get (D := (dC, dI)) (ci := 12) (v := .int 15) (C := RX12) (T := TX12) (N := 43) hx hb hq inX12 hown hK hP 0 rfl rfl 1 (by decide) (hq _ qw_1161) (fun _ h9 => h9) rfl dX12_four_12 ?_
  refine lv_iload_n hx hb dX12_four_15 rfl (lv_at hl 2 rfl) ?_
  refine lv_iload_n hx hb dX12_four_16 rfl (lv_at hl 0 rfl) ?_
  refine lv_ishr hx hb dX12_four_17 ?_
  refine lv_topi (fun y_13 ey_13 => ?_)
  refine lv_i2b hx hb dX12_four_18 rfl ?_
  refine lv_topi (fun y_14 ey_14 => ?_)
  refine va_bast hx hb hK hP hD hS 1 0 rfl rfl (inr_ok rfl) dX12_four_19 (fun H locs hP hD hS => ?_)
  generalize upd f_11 (Int32.toNatClampNeg 15) (vp_nar .byte y_14) = f_15 at hP hD
  have hP : va_P (dC, dI) classes [(h0, .inr (12, [.ref s0, .int 15, .int 0, .ref s3, .ref s4, .ref s5, .ref s6, .ref s7, .int 0, .int 0, .int 0, .int 0, .int 0, .int 0, .int 0, .ref s15, .int 0, .ref s17, .int 0, .ref s19, .ref s20, .int (-1), .int 0, .int 0, .int 0, .int 0, .int 0, .ref s27, .int 0, .ref s29, .ref s30, .ref s31, .int 0, .int 0, .int 0, .ref s35, .ref s36, .ref s37, .long 0, .ref s39, .ref s40, .ref s41, .ref s42])), (s0, .inl (k0, 400, .inl f_15))] H := hP
  have hD : va_D A [(h0, .inr (12, [.ref s0, .int 15, .int 0, .ref s3, .ref s4, .ref s5, .ref s6, .ref s7, .int 0, .int 0, .int 0, .int 0, .int 0, .int 0, .int 0, .ref s15, .int 0, .ref s17, .int 0, .ref s19, .ref s20, .int (-1), .int 0, .int 0, .int 0, .int 0, .int 0, .ref s27, .int 0, .ref s29, .ref s30, .ref s31, .int 0, .int 0, .int 0, .ref s35, .ref s36, .ref s37, .long 0, .ref s39, .ref s40, .ref s41, .ref s42])), (s0, .inl (k0, 400, .inl f_15))] := hD
  refine lv_aload_n hx hb dX12_four_20 rfl (lv_at hl 1 rfl) ?_
  refine lv_dup hx hb dX12_four_21 rfl ?_
  refine va_get (D := (dC, dI)) (ci := 12) (v := .int 15) (C := RX12) (T := TX12) (N := 43) hx hb hq inX12 hown hK hP 0 rfl rfl 1 (by decide) (hq _ qw_1161) (fun _ h9 => h9) rfl dX12_four_22 ?_
  refine lv_iconst (v := 1) hx hb dX12_four_25 (by decide) ?_
  refine lv_iadd hx hb dX12_four_26 ?_
  refine lv_topi (fun y_16 ey_16 => ?_)
  obtain rfl : y_16 = 16 := ey_16.trans (by decide)
  refine va_put (D := (dC, dI)) (ci := 12) (v := .int 16) (ty := .int) (C := RX12) (T := TX12) (N := 43) hx hb hq inX12 tyX12 tyX12_ok nmX12 hown hK hP hD hS 0 rfl rfl 1 (by decide) (hq _ qw_1161) (fun _ h9 => h9) rfl (by decide +kernel) rfl rfl (Nat.le_of_ble_eq_true rfl) dX12_four_27 (fun H locs hP hD hS => ?_)
  have hP : va_P (dC, dI) classes [(h0, .inr (12, [.ref s0, .int 16, .int 0, .ref s3, .ref s4, .ref s5, .ref s6, .ref s7, .int 0, .int 0, .int 0, .int 0, .int 0, .int 0, .int 0, .ref s15, .int 0, .ref s17, .int 0, .ref s19, .ref s20, .int (-1), .int 0, .int 0, .int 0, .int 0, .int 0, .ref s27, .int 0, .ref s29, .ref s30, .ref s31, .int 0, .int 0, .int 0, .ref s35, .ref s36, .ref s37, .long 0, .ref s39, .ref s40, .ref s41, .ref s42])), (s0, .inl (k0, 400, .inl f_15))] H := hP
  have hD : va_D A [(h0, .inr (12, [.ref s0, .int 16, .int 0, .ref s3, .ref s4, .ref s5, .ref s6, .ref s7, .int 0, .int 0, .int 0, .int 0, .int 0, .int 0, .int 0, .ref s15, .int 0, .ref s17, .int 0, .ref s19, .ref s20, .int (-1), .int 0, .int 0, .int 0, .int 0, .int 0, .ref s27, .int 0, .ref s29, .ref s30, .ref s31, .int 0, .int 0, .int 0, .ref s35, .ref s36, .ref s37, .long 0, .ref s39, .ref s40, .ref s41, .ref s42])), (s0, .inl (k0, 400, .inl f_15))] := hD
  refine lv_iinc (v := (-8)) (lv' := [(2, .int (-8)), (0, .ref h0), (1, .int x0)]) hx hb dX12_four_30 hl (k := 0) rfl (by decide) (by decide) rfl (fun ls hl => ?_)
  refine lv_goto (tgt := 3) hx hb dX12_four_33 (by decide) ?_
  refine lv_iload_n hx hb dX12_four_3 rfl (lv_at hl 0 rfl) ?_
  refine lv_if_lt (tgt := 36) hx hb dX12_four_4 (by decide) (fun _ => ?_) (fun c9 => absurd c9 (by decide))
  have hP9 := hP.sub (ws' := [(h0, .inr (12, [.ref s0, .int 16, .int 0, .ref s3, .ref s4, .ref s5, .ref s6, .ref s7, .int 0, .int 0, .int 0, .int 0, .int 0, .int 0, .int 0, .ref s15, .int 0, .ref s17, .int 0, .ref s19, .ref s20, .int (-1), .int 0, .int 0, .int 0, .int 0, .int 0, .ref s27, .int 0, .ref s29, .ref s30, .ref s31, .int 0, .int 0, .int 0, .ref s35, .ref s36, .ref s37, .long 0, .ref s39, .ref s40, .ref s41, .ref s42])), (s0, .inl (k0, 400, .inl f_15))]) [0, 1] rfl
  have hD9 := hD.sub (ws' := [(h0, .inr (12, [.ref s0, .int 16, .int 0, .ref s3, .ref s4, .ref s5, .ref s6, .ref s7, .int 0, .int 0, .int 0, .int 0, .int 0, .int 0, .int 0, .ref s15, .int 0, .ref s17, .int 0, .ref s19, .ref s20, .int (-1), .int 0, .int 0, .int 0, .int 0, .int 0, .ref s27, .int 0, .ref s29, .ref s30, .ref s31, .int 0, .int 0, .int 0, .ref s35, .ref s36, .ref s37, .long 0, .ref s39, .ref s40, .ref s41, .ref s42])), (s0, .inl (k0, 400, .inl f_15))]) [0, 1] (by decide) rfl
  have hK9 := hK.sub (tys' := [(k0, .byte)]) [0] rfl
  refine W.widen (k := 0) (n := 0) (Nat.le_of_ble_eq_true rfl) (Nat.le_of_ble_eq_true rfl) ?_
  exact W.vret hx hb hr (fun t ht hW => ⟨⟨(), rfl, trivial, f_15, by rw [ht]; exact hP9, va_K.moved hW.alike hK9, hD9⟩, hS.F ht⟩) hS.2.2 dX12_four_36

set_option maxHeartbeats 4000000 in
set_option maxRecDepth 100000 in
/-- c_M_four_16 -/
theorem c_M_four_16 (l : Launch) (dC : Nat → ClassId) (dI : Nat → Nat → Nat) (sz : Nat) (h0 : Nat) (s0 : Nat) (s3 : Nat) (s4 : Nat) (s5 : Nat) (s6 : Nat) (s7 : Nat) (s15 : Nat) (s17 : Nat) (s19 : Nat) (s20 : Nat) (s27 : Nat) (s29 : Nat) (s30 : Nat) (s31 : Nat) (s35 : Nat) (s36 : Nat) (s37 : Nat) (s39 : Nat) (s40 : Nat) (s41 : Nat) (s42 : Nat) (k0 : ClassId) (g0 : Nat → Int32) (x0 : Int32) : Met l yX12_four (.code yX12_four cX12_four 3 none :: wsA) ({ frames := 0, cells := 0, slots := 0, locals := 0 }) (va_Pc [.ref h0, .int x0] (fun U => U.heap.size = sz ∧ va_P (dC, dI) classes [(h0, .inr (12, [.ref s0, .int 16, .int 0, .ref s3, .ref s4, .ref s5, .ref s6, .ref s7, .int 0, .int 0, .int 0, .int 0, .int 0, .int 0, .int 0, .ref s15, .int 0, .ref s17, .int 0, .ref s19, .ref s20, .int (-1), .int 0, .int 0, .int 0, .int 0, .int 0, .ref s27, .int 0, .ref s29, .ref s30, .ref s31, .int 0, .int 0, .int 0, .ref s35, .ref s36, .ref s37, .long 0, .ref s39, .ref s40, .ref s41, .ref s42])), (s0, .inl (k0, 400, .inl g0))] U.heap ∧ va_K (dC, dI) classes [(k0, .byte)] U ∧ va_D (fun _ => True) [(h0, .inr (12, [.ref s0, .int 16, .int 0, .ref s3, .ref s4, .ref s5, .ref s6, .ref s7, .int 0, .int 0, .int 0, .int 0, .int 0, .int 0, .int 0, .ref s15, .int 0, .ref s17, .int 0, .ref s19, .ref s20, .int (-1), .int 0, .int 0, .int 0, .int 0, .int 0, .ref s27, .int 0, .ref s29, .ref s30, .ref s31, .int 0, .int 0, .int 0, .ref s35, .ref s36, .ref s37, .long 0, .ref s39, .ref s40, .ref s41, .ref s42])), (s0, .inl (k0, 400, .inl g0))] ∧ xE U)) (va_Qv (fun (_ : Unit) => True) (fun _ t => ∃ (o_f_15 : Nat → Int32), va_P (dC, dI) classes [(h0, .inr (12, [.ref s0, .int 20, .int 0, .ref s3, .ref s4, .ref s5, .ref s6, .ref s7, .int 0, .int 0, .int 0, .int 0, .int 0, .int 0, .int 0, .ref s15, .int 0, .ref s17, .int 0, .ref s19, .ref s20, .int (-1), .int 0, .int 0, .int 0, .int 0, .int 0, .ref s27, .int 0, .ref s29, .ref s30, .ref s31, .int 0, .int 0, .int 0, .ref s35, .ref s36, .ref s37, .long 0, .ref s39, .ref s40, .ref s41, .ref s42])), (s0, .inl (k0, 400, .inl o_f_15))] t.heap ∧ va_K (dC, dI) classes [(k0, .byte)] t ∧ va_D (va_A [(h0, .inr (12, [.ref s0, .int 16, .int 0, .ref s3, .ref s4, .ref s5, .ref s6, .ref s7, .int 0, .int 0, .int 0, .int 0, .int 0, .int 0, .int 0, .ref s15, .int 0, .ref s17, .int 0, .ref s19, .ref s20, .int (-1), .int 0, .int 0, .int 0, .int 0, .int 0, .ref s27, .int 0, .ref s29, .ref s30, .ref s31, .int 0, .int 0, .int 0, .ref s35, .ref s36, .ref s37, .long 0, .ref s39, .ref s40, .ref s41, .ref s42])), (s0, .inl (k0, 400, .inl g0))] sz) [(h0, .inr (12, [.ref s0, .int 20, .int 0, .ref s3, .ref s4, .ref s5, .ref s6, .ref s7, .int 0, .int 0, .int 0, .int 0, .int 0, .int 0, .int 0, .ref s15, .int 0, .ref s17, .int 0, .ref s19, .ref s20, .int (-1), .int 0, .int 0, .int 0, .int 0, .int 0, .ref s27, .int 0, .ref s29, .ref s30, .ref s31, .int 0, .int 0, .int 0, .ref s35, .ref s36, .ref s37, .long 0, .ref s39, .ref s40, .ref s41, .ref s42])), (s0, .inl (k0, 400, .inl o_f_15))]) (va_A [(h0, .inr (12, [.ref s0, .int 16, .int 0, .ref s3, .ref s4, .ref s5, .ref s6, .ref s7, .int 0, .int 0, .int 0, .int 0, .int 0, .int 0, .int 0, .ref s15, .int 0, .ref s17, .int 0, .ref s19, .ref s20, .int (-1), .int 0, .int 0, .int 0, .int 0, .int 0, .ref s27, .int 0, .ref s29, .ref s30, .ref s31, .int 0, .int 0, .int 0, .ref s35, .ref s36, .ref s37, .long 0, .ref s39, .ref s40, .ref s41, .ref s42])), (s0, .inl (k0, 400, .inl g0))] sz)) 0 0 (va_A [(h0, .inr (12, [.ref s0, .int 16, .int 0, .ref s3, .ref s4, .ref s5, .ref s6, .ref s7, .int 0, .int 0, .int 0, .int 0, .int 0, .int 0, .int 0, .ref s15, .int 0, .ref s17, .int 0, .ref s19, .ref s20, .int (-1), .int 0, .int 0, .int 0, .int 0, .int 0, .ref s27, .int 0, .ref s29, .ref s30, .ref s31, .int 0, .int 0, .int 0, .ref s35, .ref s36, .ref s37, .long 0, .ref s39, .ref s40, .ref s41, .ref s42])), (s0, .inl (k0, 400, .inl g0))] sz) := by
  refine Met.ofW (cc := cX12_four) (maxL := 3) (ret := none) (by decide) rfl ?_
  intro p e s m args below meth c s₁ B hml hv
  obtain ⟨rfl, hsz, hP, hK, hD0, hE⟩ := hv
  have hx := B.exec
  have hb := B.bytes
  have hr := B.returns
  have hts := atoms_spec (ws := .code yX12_four cX12_four 3 none :: wsA) B.pre
  have hq : ∀ w ∈ wsA, w.before _ s = true := fun w h => hts w (List.mem_cons_of_mem _ h)
  have hown : s.vm.findClass RX12 = some m.cls := findClass_of_methodNamed B.named
  have hlocks := B.notSynchronized
  subst hsz
  have hD := hD0.self (sz := s.heap.size)
  generalize hAe : va_A [(h0, .inr (12, [.ref s0, .int 16, .int 0, .ref s3, .ref s4, .ref s5, .ref s6, .ref s7, .int 0, .int 0, .int 0, .int 0, .int 0, .int 0, .int 0, .ref s15, .int 0, .ref s17, .int 0, .ref s19, .ref s20, .int (-1), .int 0, .int 0, .int 0, .int 0, .int 0, .ref s27, .int 0, .ref s29, .ref s30, .ref s31, .int 0, .int 0, .int 0, .ref s35, .ref s36, .ref s37, .long 0, .ref s39, .ref s40, .ref s41, .ref s42])), (s0, .inl (k0, 400, .inl g0))] s.heap.size = A at hD ⊢
  have hA : ∀ q : Nat, s.heap.size ≤ q → A q := fun q h => by rw [← hAe]; exact Or.inr h
  have hS : va_S A s.heap s.heap [] := va_S.rf
  have hl := lv_entry ([.ref h0, .int x0]) (n := 3) (Nat.le_of_ble_eq_true rfl)
  rw [lg_entry_eq]
  generalize (lg_sl ([.ref h0, .int x0]) ++ List.replicate (3 - (lg_sl ([.ref h0, .int x0])).length) Slot.unset).toArray = ls at hl ⊢
  have hl : lv_has ls 3 [(0, .ref h0), (1, .int x0)] := hl
  refine lv_bipush (v := 24) hx hb dX12_four_0 (by decide) ?_
  refine lv_istore_n (lv' := [(2, .int 24), (0, .ref h0), (1, .int x0)]) hx hb dX12_four_2 rfl hl (by decide) rfl (fun ls hl => ?_)
  refine lv_iload_n hx hb dX12_four_3 rfl (lv_at hl 0 rfl) ?_
  refine lv_if_lt (tgt := 36) hx hb dX12_four_4 (by decide) (fun c9 => absurd c9 (by decide)) (fun _ => ?_)
  refine lv_aload_n hx hb dX12_four_7 rfl (lv_at hl 1 rfl) ?_
  refine va_get (D := (dC, dI)) (ci := 12) (v := .ref s0) (C := RX12) (T := TX12) (N := 43) hx hb hq inX12 hown hK hP 0 rfl rfl 0 (by decide) (hq _ qw_1160) (fun _ h9 => h9) rfl dX12_four_8 ?_
  refine lv_aload_n hx hb dX12_four_11 rfl (lv_at hl 1 rfl) ?_
  refine va_get (D := (dC, dI)) (ci := 12) (v := .int 16) (C := RX12) (T := TX12) (N := 43) hx hb hq inX12 hown hK hP 0 rfl rfl 1 (by decide) (hq _ qw_1161) (fun _ h9 => h9) rfl dX12_four_12 ?_
  refine lv_iload_n hx hb dX12_four_15 rfl (lv_at hl 2 rfl) ?_
  refine lv_iload_n hx hb dX12_four_16 rfl (lv_at hl 0 rfl) ?_
  refine lv_ishr hx hb dX12_four_17 ?_
  refine lv_topi (fun y_1 ey_1 => ?_)
  refine lv_i2b hx hb dX12_four_18 rfl ?_
  refine lv_topi (fun y_2 ey_2 => ?_)
  refine va_bast hx hb hK hP hD hS 1 0 rfl rfl (inr_ok rfl) dX12_four_19 (fun H locs hP hD hS => ?_)
  generalize upd g0 (Int32.toNatClampNeg 16) (vp_nar .byte y_2) = f_3 at hP hD
  have hP : va_P (dC, dI) classes [(h0, .inr (12, [.ref s0, .int 16, .int 0, .ref s3, .ref s4, .ref s5, .ref s6, .ref s7, .int 0, .int 0, .int 0, .int 0, .int 0, .int 0, .int 0, .ref s15, .int 0, .ref s17, .int 0, .ref s19, .ref s20, .int (-1), .int 0, .int 0, .int 0, .int 0, .int 0, .ref s27, .int 0, .ref s29, .ref s30, .ref s31, .int 0, .int 0, .int 0, .ref s35, .ref s36, .ref s37, .long 0, .ref s39, .ref s40, .ref s41, .ref s42])), (s0, .inl (k0, 400, .inl f_3))] H := hP
  have hD : va_D A [(h0, .inr (12, [.ref s0, .int 16, .int 0, .ref s3, .ref s4, .ref s5, .ref s6, .ref s7, .int 0, .int 0, .int 0, .int 0, .int 0, .int 0, .int 0, .ref s15, .int 0, .ref s17, .int 0, .ref s19, .ref s20, .int (-1), .int 0, .int 0, .int 0, .int 0, .int 0, .ref s27, .int 0, .ref s29, .ref s30, .ref s31, .int 0, .int 0, .int 0, .ref s35, .ref s36, .ref s37, .long 0, .ref s39, .ref s40, .ref s41, .ref s42])), (s0, .inl (k0, 400, .inl f_3))] := hD
  refine lv_aload_n hx hb dX12_four_20 rfl (lv_at hl 1 rfl) ?_
  refine lv_dup hx hb dX12_four_21 rfl ?_
  refine va_get (D := (dC, dI)) (ci := 12) (v := .int 16) (C := RX12) (T := TX12) (N := 43) hx hb hq inX12 hown hK hP 0 rfl rfl 1 (by decide) (hq _ qw_1161) (fun _ h9 => h9) rfl dX12_four_22 ?_
  refine lv_iconst (v := 1) hx hb dX12_four_25 (by decide) ?_
  refine lv_iadd hx hb dX12_four_26 ?_
  refine lv_topi (fun y_4 ey_4 => ?_)
  obtain rfl : y_4 = 17 := ey_4.trans (by decide)
  refine va_put (D := (dC, dI)) (ci := 12) (v := .int 17) (ty := .int) (C := RX12) (T := TX12) (N := 43) hx hb hq inX12 tyX12 tyX12_ok nmX12 hown hK hP hD hS 0 rfl rfl 1 (by decide) (hq _ qw_1161) (fun _ h9 => h9) rfl (by decide +kernel) rfl rfl (Nat.le_of_ble_eq_true rfl) dX12_four_27 (fun H locs hP hD hS => ?_)
  have hP : va_P (dC, dI) classes [(h0, .inr (12, [.ref s0, .int 17, .int 0, .ref s3, .ref s4, .ref s5, .ref s6, .ref s7, .int 0, .int 0, .int 0, .int 0, .int 0, .int 0, .int 0, .ref s15, .int 0, .ref s17, .int 0, .ref s19, .ref s20, .int (-1), .int 0, .int 0, .int 0, .int 0, .int 0, .ref s27, .int 0, .ref s29, .ref s30, .ref s31, .int 0, .int 0, .int 0, .ref s35, .ref s36, .ref s37, .long 0, .ref s39, .ref s40, .ref s41, .ref s42])), (s0, .inl (k0, 400, .inl f_3))] H := hP
  have hD : va_D A [(h0, .inr (12, [.ref s0, .int 17, .int 0, .ref s3, .ref s4, .ref s5, .ref s6, .ref s7, .int 0, .int 0, .int 0, .int 0, .int 0, .int 0, .int 0, .ref s15, .int 0, .ref s17, .int 0, .ref s19, .ref s20, .int (-1), .int 0, .int 0, .int 0, .int 0, .int 0, .ref s27, .int 0, .ref s29, .ref s30, .ref s31, .int 0, .int 0, .int 0, .ref s35, .ref s36, .ref s37, .long 0, .ref s39, .ref s40, .ref s41, .ref s42])), (s0, .inl (k0, 400, .inl f_3))] := hD
  refine lv_iinc (v := 16) (lv' := [(2, .int 16), (0, .ref h0), (1, .int x0)]) hx hb dX12_four_30 hl (k := 0) rfl (by decide) (by decide) rfl (fun ls hl => ?_)
  refine lv_goto (tgt := 3) hx hb dX12_four_33 (by decide) ?_
  refine lv_iload_n hx hb dX12_four_3 rfl (lv_at hl 0 rfl) ?_
  refine lv_if_lt (tgt := 36) hx hb dX12_four_4 (by decide) (fun c9 => absurd c9 (by decide)) (fun _ => ?_)
  refine lv_aload_n hx hb dX12_four_7 rfl (lv_at hl 1 rfl) ?_
  refine va_get (D := (dC, dI)) (ci := 12) (v := .ref s0) (C := RX12) (T := TX12) (N := 43) hx hb hq inX12 hown hK hP 0 rfl rfl 0 (by decide) (hq _ qw_1160) (fun _ h9 => h9) rfl dX12_four_8 ?_
  refine lv_aload_n hx hb dX12_four_11 rfl (lv_at hl 1 rfl) ?_
  refine va_get (D := (dC, dI)) (ci := 12) (v := .int 17) (C := RX12) (T := TX12) (N := 43) hx hb hq inX12 hown hK hP 0 rfl rfl 1 (by decide) (hq _ qw_1161) (fun _ h9 => h9) rfl dX12_four_12 ?_
  refine lv_iload_n hx hb dX12_four_15 rfl (lv_at hl 2 rfl) ?_
  refine lv_iload_n hx hb dX12_four_16 rfl (lv_at hl 0 rfl) ?_
  refine lv_ishr hx hb dX12_four_17 ?_
  refine lv_topi (fun y_5 ey_5 => ?_)
  refine lv_i2b hx hb dX12_four_18 rfl ?_
  refine lv_topi (fun y_6 ey_6 => ?_)
  refine va_bast hx hb hK hP hD hS 1 0 rfl rfl (inr_ok rfl) dX12_four_19 (fun H locs hP hD hS => ?_)
  generalize upd f_3 (Int32.toNatClampNeg 17) (vp_nar .byte y_6) = f_7 at hP hD
  have hP : va_P (dC, dI) classes [(h0, .inr (12, [.ref s0, .int 17, .int 0, .ref s3, .ref s4, .ref s5, .ref s6, .ref s7, .int 0, .int 0, .int 0, .int 0, .int 0, .int 0, .int 0, .ref s15, .int 0, .ref s17, .int 0, .ref s19, .ref s20, .int (-1), .int 0, .int 0, .int 0, .int 0, .int 0, .ref s27, .int 0, .ref s29, .ref s30, .ref s31, .int 0, .int 0, .int 0, .ref s35, .ref s36, .ref s37, .long 0, .ref s39, .ref s40, .ref s41, .ref s42])), (s0, .inl (k0, 400, .inl f_7))] H := hP
  have hD : va_D A [(h0, .inr (12, [.ref s0, .int 17, .int 0, .ref s3, .ref s4, .ref s5, .ref s6, .ref s7, .int 0, .int 0, .int 0, .int 0, .int 0, .int 0, .int 0, .ref s15, .int 0, .ref s17, .int 0, .ref s19, .ref s20, .int (-1), .int 0, .int 0, .int 0, .int 0, .int 0, .ref s27, .int 0, .ref s29, .ref s30, .ref s31, .int 0, .int 0, .int 0, .ref s35, .ref s36, .ref s37, .long 0, .ref s39, .ref s40, .ref s41, .ref s42])), (s0, .inl (k0, 400, .inl f_7))] := hD
  refine lv_aload_n hx hb dX12_four_20 rfl (lv_at hl 1 rfl) ?_
  refine lv_dup hx hb dX12_four_21 rfl ?_
  refine va_get (D := (dC, dI)) (ci := 12) (v := .int 17) (C := RX12) (T := TX12) (N := 43) hx hb hq inX12 hown hK hP 0 rfl rfl 1 (by decide) (hq _ qw_1161) (fun _ h9 => h9) rfl dX12_four_22 ?_
  refine lv_iconst (v := 1) hx hb dX12_four_25 (by decide) ?_
  refine lv_iadd hx hb dX12_four_26 ?_
  refine lv_topi (fun y_8 ey_8 => ?_)
  obtain rfl : y_8 = 18 := ey_8.trans (by decide)
  refine va_put (D := (dC, dI)) (ci := 12) (v := .int 18) (ty := .int) (C := RX12) (T := TX12) (N := 43) hx hb hq inX12 tyX12 tyX12_ok nmX12 hown hK hP hD hS 0 rfl rfl 1 (by decide) (hq _ qw_1161) (fun _ h9 => h9) rfl (by decide +kernel) rfl rfl (Nat.le_of_ble_eq_true rfl) dX12_four_27 (fun H locs hP hD hS => ?_)
  have hP : va_P (dC, dI) classes [(h0, .inr (12, [.ref s0, .int 18, .int 0, .ref s3, .ref s4, .ref s5, .ref s6, .ref s7, .int 0, .int 0, .int 0, .int 0, .int 0, .int 0, .int 0, .ref s15, .int 0, .ref s17, .int 0, .ref s19, .ref s20, .int (-1), .int 0, .int 0, .int 0, .int 0, .int 0, .ref s27, .int 0, .ref s29, .ref s30, .ref s31, .int 0, .int 0, .int 0, .ref s35, .ref s36, .ref s37, .long 0, .ref s39, .ref s40, .ref s41, .ref s42])), (s0, .inl (k0, 400, .inl f_7))] H := hP
  have hD : va_D A [(h0, .inr (12, [.ref s0, .int 18, .int 0, .ref s3, .ref s4, .ref s5, .ref s6, .ref s7, .int 0, .int 0, .int 0, .int 0, .int 0, .int 0, .int 0, .ref s15, .int 0, .ref s17, .int 0, .ref s19, .ref s20, .int (-1), .int 0, .int 0, .int 0, .int 0, .int 0, .ref s27, .int 0, .ref s29, .ref s30, .ref s31, .int 0, .int 0, .int 0, .ref s35, .ref s36, .ref s37, .long 0, .ref s39, .ref s40, .ref s41, .ref s42])), (s0, .inl (k0, 400, .inl f_7))] := hD
  refine lv_iinc (v := 8) (lv' := [(2, .int 8), (0, .ref h0), (1, .int x0)]) hx hb dX12_four_30 hl (k := 0) rfl (by decide) (by decide) rfl (fun ls hl => ?_)
  refine lv_goto (tgt := 3) hx hb dX12_four_33 (by decide) ?_
  refine lv_iload_n hx hb dX12_four_3 rfl (lv_at hl 0 rfl) ?_
  refine lv_if_lt (tgt := 36) hx hb dX12_four_4 (by decide) (fun c9 => absurd c9 (by decide)) (fun _ => ?_)
  refine lv_aload_n hx hb dX12_four_7 rfl (lv_at hl 1 rfl) ?_
  refine va_get (D := (dC, dI)) (ci := 12) (v := .ref s0) (C := RX12) (T := TX12) (N := 43) hx hb hq inX12 hown hK hP 0 rfl rfl 0 (by decide) (hq _ qw_1160) (fun _ h9 => h9) rfl dX12_four_8 ?_
  refine lv_aload_n hx hb dX12_four_11 rfl (lv_at hl 1 rfl) ?_
  refine va_get (D := (dC, dI)) (ci := 12) (v := .int 18) (C := RX12) (T := TX12) (N := 43) hx hb hq inX12 hown hK hP 0 rfl rfl 1 (by decide) (hq _ qw_1161) (fun _ h9 => h9) rfl dX12_four_12 ?_
  refine lv_iload_n hx hb dX12_four_15 rfl (lv_at hl 2 rfl) ?_
  refine lv_iload_n hx hb dX12_four_16 rfl (lv_at hl 0 rfl) ?_
  refine lv_ishr hx hb dX12_four_17 ?_
  refine lv_topi (fun y_9 ey_9 => ?_)
  refine lv_i2b hx hb dX12_four_18 rfl ?_
  refine lv_topi (fun y_10 ey_10 => ?_)
  refine va_bast hx hb hK hP hD hS 1 0 rfl rfl (inr_ok rfl) dX12_four_19 (fun H locs hP hD hS => ?_)
  generalize upd f_7 (Int32.toNatClampNeg 18) (vp_nar .byte y_10) = f_11 at hP hD
  have hP : va_P (dC, dI) classes [(h0, .inr (12, [.ref s0, .int 18, .int 0, .ref s3, .ref s4, .ref s5, .ref s6, .ref s7, .int 0, .int 0, .int 0, .int 0, .int 0, .int 0, .int 0, .ref s15, .int 0, .ref s17, .int 0, .ref s19, .ref s20, .int (-1), .int 0, .int 0, .int 0, .int 0, .int 0, .ref s27, .int 0, .ref s29, .ref s30, .ref s31, .int 0, .int 0, .int 0, .ref s35, .ref s36, .ref s37, .long 0, .ref s39, .ref s40, .ref s41, .ref s42])), (s0, .inl (k0, 400, .inl f_11))] H := hP
  have hD : va_D A [(h0, .inr (12, [.ref s0, .int 18, .int 0, .ref s3, .ref s4, .ref s5, .ref s6, .ref s7, .int 0, .int 0, .int 0, .int 0, .int 0, .int 0, .int 0, .ref s15, .int 0, .ref s17, .int 0, .ref s19, .ref s20, .int (-1), .int 0, .int 0, .int 0, .int 0, .int 0, .ref s27, .int 0, .ref s29, .ref s30, .ref s31, .int 0, .int 0, .int 0, .ref s35, .ref s36, .ref s37, .long 0, .ref s39, .ref s40, .ref s41, .ref s42])), (s0, .inl (k0, 400, .inl f_11))] := hD
  refine lv_aload_n hx hb dX12_four_20 rfl (lv_at hl 1 rfl) ?_
  refine lv_dup hx hb dX12_four_21 rfl ?_
  refine va_get (D := (dC, dI)) (ci := 12) (v := .int 18) (C := RX12) (T := TX12) (N := 43) hx hb hq inX12 hown hK hP 0 rfl rfl 1 (by decide) (hq _ qw_1161) (fun _ h9 => h9) rfl dX12_four_22 ?_
  refine lv_iconst (v := 1) hx hb dX12_four_25 (by decide) ?_
  refine lv_iadd hx hb dX12_four_26 ?_
  refine lv_topi (fun y_12 ey_12 => ?_)
  obtain rfl : y_12 = 19 := ey_12.trans (by decide)
  refine va_put (D := (dC, dI)) (ci := 12) (v := .int 19) (ty := .int) (C := RX12) (T := TX12) (N := 43) hx hb hq inX12 tyX12 tyX12_ok nmX12 hown hK hP hD hS 0 rfl rfl 1 (by decide) (hq _ qw_1161) (fun _ h9 => h9) rfl (by decide +kernel) rfl rfl (Nat.le_of_ble_eq_true rfl) dX12_four_27 (fun H locs hP hD hS => ?_)
  have hP : va_P (dC, dI) classes [(h0, .inr (12, [.ref s0, .int 19, .int 0, .ref s3, .ref s4, .ref s5, .ref s6, .ref s7, .int 0, .int 0, .int 0, .int 0, .int 0, .int 0, .int 0, .ref s15, .int 0, .ref s17, .int 0, .ref s19, .ref s20, .int (-1), .int 0, .int 0, .int 0, .int 0, .int 0, .ref s27, .int 0, .ref s29, .ref s30, .ref s31, .int 0, .int 0, .int 0, .ref s35, .ref s36, .ref s37, .long 0, .ref s39, .ref s40, .ref s41, .ref s42])), (s0, .inl (k0, 400, .inl f_11))] H := hP
  have hD : va_D A [(h0, .inr (12, [.ref s0, .int 19, .int 0, .ref s3, .ref s4, .ref s5, .ref s6, .ref s7, .int 0, .int 0, .int 0, .int 0, .int 0, .int 0, .int 0, .ref s15, .int 0, .ref s17, .int 0, .ref s19, .ref s20, .int (-1), .int 0, .int 0, .int 0, .int 0, .int 0, .ref s27, .int 0, .ref s29, .ref s30, .ref s31, .int 0, .int 0, .int 0, .ref s35, .ref s36, .ref s37, .long 0, .ref s39, .ref s40, .ref s41, .ref s42])), (s0, .inl (k0, 400, .inl f_11))] := hD
  refine lv_iinc (v := 0) (lv' := [(2, .int 0), (0, .ref h0), (1, .int x0)]) hx hb dX12_four_30 hl (k := 0) rfl (by decide) (by decide) rfl (fun ls hl => ?_)
  refine lv_goto (tgt := 3) hx hb dX12_four_33 (by decide) ?_
  refine lv_iload_n hx hb dX12_four_3 rfl (lv_at hl 0 rfl) ?_
  refine lv_if_lt (tgt := 36) hx hb dX12_four_4 (by decide) (fun c9 => absurd c9 (by decide)) (fun _ => ?_)
  refine lv_aload_n hx hb dX12_four_7 rfl (lv_at hl 1 rfl) ?_
  refine va_get (D := (dC, dI)) (ci := 12) (v := .ref s0) (C := RX12) (T := TX12) (N := 43) hx hb hq inX12 hown hK hP 0 rfl rfl 0 (by decide) (hq _ qw_1160) (fun _ h9 => h9) rfl dX12_four_8 ?_
  refine lv_aload_n hx hb dX12_four_11 rfl (lv_at hl 1 rfl) ?_
  refine va_get (D := (dC, dI)) (ci := 12) (v := .int 19) (C := RX12) (T := TX12) (N := 43) hx hb hq inX12 hown hK hP 0 rfl rfl 1 (by decide) (hq _ qw_1161) (fun _ h9 => h9) rfl dX12_four_12 ?_
  refine lv_iload_n hx hb dX12_four_15 rfl (lv_at hl 2 rfl) ?_
  refine lv_iload_n hx hb dX12_four_16 rfl (lv_at hl 0 rfl) ?_
  refine lv_ishr hx hb dX12_four_17 ?_
  refine lv_topi (fun y_13 ey_13 => ?_)
  refine lv_i2b hx hb dX12_four_18 rfl ?_
  refine lv_topi (fun y_14 ey_14 => ?_)
  refine va_bast hx hb hK hP hD hS 1 0 rfl rfl (inr_ok rfl) dX12_four_19 (fun H locs hP hD hS => ?_)
  generalize upd f_11 (Int32.toNatClampNeg 19) (vp_nar .byte y_14) = f_15 at hP hD
  have hP : va_P (dC, dI) classes [(h0, .inr (12, [.ref s0, .int 19, .int 0, .ref s3, .ref s4, .ref s5, .ref s6, .ref s7, .int 0, .int 0, .int 0, .int 0, .int 0, .int 0, .int 0, .ref s15, .int 0, .ref s17, .int 0, .ref s19, .ref s20, .int (-1), .int 0, .int 0, .int 0, .int 0, .int 0, .ref s27, .int 0, .ref s29, .ref s30, .ref s31, .int 0, .int 0, .int 0, .ref s35, .ref s36, .ref s37, .long 0, .ref s39, .ref s40, .ref s41, .ref s42])), (s0, .inl (k0, 400, .inl f_15))] H := hP
  have hD : va_D A [(h0, .inr (12, [.ref s0, .int 19, .int 0, .ref s3, .ref s4, .ref s5, .ref s6, .ref s7, .int 0, .int 0, .int 0, .int 0, .int 0, .int 0, .int 0, .ref s15, .int 0, .ref s17, .int 0, .ref s19, .ref s20, .int (-1), .int 0, .int 0, .int 0, .int 0, .int 0, .ref s27, .int 0, .ref s29, .ref s30, .ref s31, .int 0, .int 0, .int 0, .ref s35, .ref s36, .ref s37, .long 0, .ref s39, .ref s40, .ref s41, .ref s42])), (s0, .inl (k0, 400, .inl f_15))] := hD
  refine lv_aload_n hx hb dX12_four_20 rfl (lv_at hl 1 rfl) ?_
  refine lv_dup hx hb dX12_four_21 rfl ?_
  refine va_get (D := (dC, dI)) (ci := 12) (v := .int 19) (C := RX12) (T := TX12) (N := 43) hx hb hq inX12 hown hK hP 0 rfl rfl 1 (by decide) (hq _ qw_1161) (fun _ h9 => h9) rfl dX12_four_22 ?_
  refine lv_iconst (v := 1) hx hb dX12_four_25 (by decide) ?_
  refine lv_iadd hx hb dX12_four_26 ?_
  refine lv_topi (fun y_16 ey_16 => ?_)
  obtain rfl : y_16 = 20 := ey_16.trans (by decide)
  refine va_put (D := (dC, dI)) (ci := 12) (v := .int 20) (ty := .int) (C := RX12) (T := TX12) (N := 43) hx hb hq inX12 tyX12 tyX12_ok nmX12 hown hK hP hD hS 0 rfl rfl 1 (by decide) (hq _ qw_1161) (fun _ h9 => h9) rfl (by decide +kernel) rfl rfl (Nat.le_of_ble_eq_true rfl) dX12_four_27 (fun H locs hP hD hS => ?_)
  have hP : va_P (dC, dI) classes [(h0, .inr (12, [.ref s0, .int 20, .int 0, .ref s3, .ref s4, .ref s5, .ref s6, .ref s7, .int 0, .int 0, .int 0, .int 0, .int 0, .int 0, .int 0, .ref s15, .int 0, .ref s17, .int 0, .ref s19, .ref s20, .int (-1), .int 0, .int 0, .int 0, .int 0, .int 0, .ref s27, .int 0, .ref s29, .ref s30, .ref s31, .int 0, .int 0, .int 0, .ref s35, .ref s36, .ref s37, .long 0, .ref s39, .ref s40, .ref s41, .ref s42])), (s0, .inl (k0, 400, .inl f_15))] H := hP
  have hD : va_D A [(h0, .inr (12, [.ref s0, .int 20, .int 0, .ref s3, .ref s4, .ref s5, .ref s6, .ref s7, .int 0, .int 0, .int 0, .int 0, .int 0, .int 0, .int 0, .ref s15, .int 0, .ref s17, .int 0, .ref s19, .ref s20, .int (-1), .int 0, .int 0, .int 0, .int 0, .int 0, .ref s27, .int 0, .ref s29, .ref s30, .ref s31, .int 0, .int 0, .int 0, .ref s35, .ref s36, .ref s37, .long 0, .ref s39, .ref s40, .ref s41, .ref s42])), (s0, .inl (k0, 400, .inl f_15))] := hD
  refine lv_iinc (v := (-8)) (lv' := [(2, .int (-8)), (0, .ref h0), (1, .int x0)]) hx hb dX12_four_30 hl (k := 0) rfl (by decide) (by decide) rfl (fun ls hl => ?_)
  refine lv_goto (tgt := 3) hx hb dX12_four_33 (by decide) ?_
  refine lv_iload_n hx hb dX12_four_3 rfl (lv_at hl 0 rfl) ?_
  refine lv_if_lt (tgt := 36) hx hb dX12_four_4 (by decide) (fun _ => ?_) (fun c9 => absurd c9 (by decide))
  have hP9 := hP.sub (ws' := [(h0, .inr (12, [.ref s0, .int 20, .int 0, .ref s3, .ref s4, .ref s5, .ref s6, .ref s7, .int 0, .int 0, .int 0, .int 0, .int 0, .int 0, .int 0, .ref s15, .int 0, .ref s17, .int 0, .ref s19, .ref s20, .int (-1), .int 0, .int 0, .int 0, .int 0, .int 0, .ref s27, .int 0, .ref s29, .ref s30, .ref s31, .int 0, .int 0, .int 0, .ref s35, .ref s36, .ref s37, .long 0, .ref s39, .ref s40, .ref s41, .ref s42])), (s0, .inl (k0, 400, .inl f_15))]) [0, 1] rfl
  have hD9 := hD.sub (ws' := [(h0, .inr (12, [.ref s0, .int 20, .int 0, .ref s3, .ref s4, .ref s5, .ref s6, .ref s7, .int 0, .int 0, .int 0, .int 0, .int 0, .int 0, .int 0, .ref s15, .int 0, .ref s17, .int 0, .ref s19, .ref s20, .int (-1), .int 0, .int 0, .int 0, .int 0, .int 0, .ref s27, .int 0, .ref s29, .ref s30, .ref s31, .int 0, .int 0, .int 0, .ref s35, .ref s36, .ref s37, .long 0, .ref s39, .ref s40, .ref s41, .ref s42])), (s0, .inl (k0, 400, .inl f_15))]) [0, 1] (by decide) rfl
  have hK9 := hK.sub (tys' := [(k0, .byte)]) [0] rfl
  refine W.widen (k := 0) (n := 0) (Nat.le_of_ble_eq_true rfl) (Nat.le_of_ble_eq_true rfl) ?_
  exact W.vret hx hb hr (fun t ht hW => ⟨⟨(), rfl, trivial, f_15, by rw [ht]; exact hP9, va_K.moved hW.alike hK9, hD9⟩, hS.F ht⟩) hS.2.2 dX12_four_36

set_option maxHeartbeats 4000000 in
set_option maxRecDepth 100000 in
/-- c_M_feed -/
theorem c_M_feed (l : Launch) (dC : Nat → ClassId) (dI : Nat → Nat → Nat) (sz : Nat) (h0 : Nat) (s0 : Nat) (s3 : Nat) (s4 : Nat) (s5 : Nat) (s6 : Nat) (s7 : Nat) (s15 : Nat) (s17 : Nat) (s19 : Nat) (s20 : Nat) (s27 : Nat) (s29 : Nat) (s30 : Nat) (s31 : Nat) (s35 : Nat) (s36 : Nat) (s37 : Nat) (s39 : Nat) (s40 : Nat) (s41 : Nat) (s42 : Nat) (k0 : ClassId) (g0 : Nat → Int32) (x0 : Int32) (x1 : Int32) (x2 : Int32) (x3 : Int32) (x4 : Int32) : Met l yX12_feed (.code yX12_feed cX12_feed 6 (some .int) :: wsA) ({ frames := 1, cells := 0, slots := 0, locals := 22 }) (va_Pc [.ref h0, .int x0, .int x1, .int x2, .int x3, .int x4] (fun U => U.heap.size = sz ∧ va_P (dC, dI) classes [(h0, .inr (12, [.ref s0, .int 0, .int 0, .ref s3, .ref s4, .ref s5, .ref s6, .ref s7, .int 0, .int 0, .int 0, .int 0, .int 0, .int 0, .int 0, .ref s15, .int 0, .ref s17, .int 0, .ref s19, .ref s20, .int (-1), .int 0, .int 0, .int 0, .int 0, .int 0, .ref s27, .int 0, .ref s29, .ref s30, .ref s31, .int 0, .int 0, .int 0, .ref s35, .ref s36, .ref s37, .long 0, .ref s39, .ref s40, .ref s41, .ref s42])), (s0, .inl (k0, 400, .inl g0))] U.heap ∧ va_K (dC, dI) classes [(k0, .byte)] U ∧ va_D (fun _ => True) [(h0, .inr (12, [.ref s0, .int 0, .int 0, .ref s3, .ref s4, .ref s5, .ref s6, .ref s7, .int 0, .int 0, .int 0, .int 0, .int 0, .int 0, .int 0, .ref s15, .int 0, .ref s17, .int 0, .ref s19, .ref s20, .int (-1), .int 0, .int 0, .int 0, .int 0, .int 0, .ref s27, .int 0, .ref s29, .ref s30, .ref s31, .int 0, .int 0, .int 0, .ref s35, .ref s36, .ref s37, .long 0, .ref s39, .ref s40, .ref s41, .ref s42])), (s0, .inl (k0, 400, .inl g0))] ∧ xE U)) (va_Qi (fun (r : Int32) (_ : Unit) => r = 20) (fun _ _ => True) (va_A [(h0, .inr (12, [.ref s0, .int 0, .int 0, .ref s3, .ref s4, .ref s5, .ref s6, .ref s7, .int 0, .int 0, .int 0, .int 0, .int 0, .int 0, .int 0, .ref s15, .int 0, .ref s17, .int 0, .ref s19, .ref s20, .int (-1), .int 0, .int 0, .int 0, .int 0, .int 0, .ref s27, .int 0, .ref s29, .ref s30, .ref s31, .int 0, .int 0, .int 0, .ref s35, .ref s36, .ref s37, .long 0, .ref s39, .ref s40, .ref s41, .ref s42])), (s0, .inl (k0, 400, .inl g0))] sz)) 0 0 (va_A [(h0, .inr (12, [.ref s0, .int 0, .int 0, .ref s3, .ref s4, .ref s5, .ref s6, .ref s7, .int 0, .int 0, .int 0, .int 0, .int 0, .int 0, .int 0, .ref s15, .int 0, .ref s17, .int 0, .ref s19, .ref s20, .int (-1), .int 0, .int 0, .int 0, .int 0, .int 0, .ref s27, .int 0, .ref s29, .ref s30, .ref s31, .int 0, .int 0, .int 0, .ref s35, .ref s36, .ref s37, .long 0, .ref s39, .ref s40, .ref s41, .ref s42])), (s0, .inl (k0, 400, .inl g0))] sz) := by
  refine Met.ofW (cc := cX12_feed) (maxL := 6) (ret := (some .int)) (by decide) rfl ?_
  intro p e s m args below meth c s₁ B hml hv
  obtain ⟨rfl, hsz, hP, hK, hD0, hE⟩ := hv
  have hx := B.exec
  have hb := B.bytes
  have hr := B.returns
  have hts := atoms_spec (ws := .code yX12_feed cX12_feed 6 (some .int) :: wsA) B.pre
  have hq : ∀ w ∈ wsA, w.before _ s = true := fun w h => hts w (List.mem_cons_of_mem _ h)
  have hown : s.vm.findClass RX12 = some m.cls := findClass_of_methodNamed B.named
  have hlocks := B.notSynchronized
  subst hsz
  have hD := hD0.self (sz := s.heap.size)
  generalize hAe : va_A [(h0, .inr (12, [.ref s0, .int 0, .int 0, .ref s3, .ref s4, .ref s5, .ref s6, .ref s7, .int 0, .int 0, .int 0, .int 0, .int 0, .int 0, .int 0, .ref s15, .int 0, .ref s17, .int 0, .ref s19, .ref s20, .int (-1), .int 0, .int 0, .int 0, .int 0, .int 0, .ref s27, .int 0, .ref s29, .ref s30, .ref s31, .int 0, .int 0, .int 0, .ref s35, .ref s36, .ref s37, .long 0, .ref s39, .ref s40, .ref s41, .ref s42])), (s0, .inl (k0, 400, .inl g0))] s.heap.size = A at hD ⊢
  have hA : ∀ q : Nat, s.heap.size ≤ q → A q := fun q h => by rw [← hAe]; exact Or.inr h
  have hS : va_S A s.heap s.heap [] := va_S.rf
  have hl := lv_entry ([.ref h0, .int x0, .int x1, .int x2, .int x3, .int x4]) (n := 6) (Nat.le_of_ble_eq_true rfl)
  rw [lg_entry_eq]
  generalize (lg_sl ([.ref h0, .int x0, .int x1, .int x2, .int x3, .int x4]) ++ List.replicate (6 - (lg_sl ([.ref h0, .int x0, .int x1, .int x2, .int x3, .int x4])).length) Slot.unset).toArray = ls at hl ⊢
  have hl : lv_has ls 6 [(0, .ref h0), (1, .int x0), (2, .int x1), (3, .int x2), (4, .int x3), (5, .int x4)] := hl
  refine lv_aload_n hx hb dX12_feed_0 rfl (lv_at hl 0 rfl) ?_
  refine va_get (D := (dC, dI)) (ci := 12) (v := .int 0) (C := RX12) (T := TX12) (N := 43) hx hb hq inX12 hown hK hP 0 rfl rfl 1 (by decide) (hq _ qw_1161) (fun _ h9 => h9) rfl dX12_feed_1 ?_
  refine lv_bipush (v := 20) hx hb dX12_feed_4 (by decide) ?_
  refine lv_iadd hx hb dX12_feed_6 ?_
  refine lv_topi (fun y_1 ey_1 => ?_)
  obtain rfl : y_1 = 20 := ey_1.trans (by decide)
  refine lv_sipush (v := 400) hx hb dX12_feed_7 (by decide) ?_
  refine lv_icmp_le (tgt := 15) hx hb dX12_feed_10 (by decide) (fun _ => ?_) (fun c9 => absurd c9 (by decide))
  refine lv_aload_n hx hb dX12_feed_15 rfl (lv_at hl 0 rfl) ?_
  refine lv_iload_n hx hb dX12_feed_16 rfl (lv_at hl 1 rfl) ?_
  have hPc := hP.sub (ws' := [(h0, .inr (12, [.ref s0, .int 0, .int 0, .ref s3, .ref s4, .ref s5, .ref s6, .ref s7, .int 0, .int 0, .int 0, .int 0, .int 0, .int 0, .int 0, .ref s15, .int 0, .ref s17, .int 0, .ref s19, .ref s20, .int (-1), .int 0, .int 0, .int 0, .int 0, .int 0, .ref s27, .int 0, .ref s29, .ref s30, .ref s31, .int 0, .int 0, .int 0, .ref s35, .ref s36, .ref s37, .long 0, .ref s39, .ref s40, .ref s41, .ref s42])), (s0, .inl (k0, 400, .inl g0))]) [0, 1] rfl
  have hDc := hD.sub (ws' := [(h0, .inr (12, [.ref s0, .int 0, .int 0, .ref s3, .ref s4, .ref s5, .ref s6, .ref s7, .int 0, .int 0, .int 0, .int 0, .int 0, .int 0, .int 0, .ref s15, .int 0, .ref s17, .int 0, .ref s19, .ref s20, .int (-1), .int 0, .int 0, .int 0, .int 0, .int 0, .ref s27, .int 0, .ref s29, .ref s30, .ref s31, .int 0, .int 0, .int 0, .ref s35, .ref s36, .ref s37, .long 0, .ref s39, .ref s40, .ref s41, .ref s42])), (s0, .inl (k0, 400, .inl g0))]) [0, 1] (by decide) rfl
  have hKc := hK.sub (tys' := [(k0, .byte)]) [0] rfl
  have hFc := va_free (wc := [(h0, .inr (12, [.ref s0, .int 0, .int 0, .ref s3, .ref s4, .ref s5, .ref s6, .ref s7, .int 0, .int 0, .int 0, .int 0, .int 0, .int 0, .int 0, .ref s15, .int 0, .ref s17, .int 0, .ref s19, .ref s20, .int (-1), .int 0, .int 0, .int 0, .int 0, .int 0, .ref s27, .int 0, .ref s29, .ref s30, .ref s31, .int 0, .int 0, .int 0, .ref s35, .ref s36, .ref s37, .long 0, .ref s39, .ref s40, .ref s41, .ref s42])), (s0, .inl (k0, 400, .inl g0))]) hD hS hA [0, 1] rfl
  refine va_callv (va_runV (As := [.int x0]) (rest := []) ⟨hx, hb, hml, hown, hq⟩ (c_M_four_0 l dC dI _ h0 s0 s3 s4 s5 s6 s7 s15 s17 s19 s20 s27 s29 s30 s31 s35 s36 s37 s39 s40 s41 s42 k0 g0 x0 ) (cwV 1 hq (gV qw_1295 qw_1297 qw_39 qw_131 qw_1298) rfl rfl rfl (by decide +kernel) ⟨Nat.le_of_ble_eq_true rfl, Nat.le_of_ble_eq_true rfl⟩) ⟨fun a U g mk q => by obtain ⟨q0, q1, qP, qK, qD, qE⟩ := q; exact ⟨q0, q1, qP, va_K.moved (u := U) (U := U.calling g mk a) (Vm.Alike.refl U.vm) qK, qD, xE.same rfl qE⟩, va_recv hKc hPc (ci := 12) (q0 := 0) rfl rfl, fun U hU hW => ⟨rfl, by rw [hU], by rw [hU]; exact hPc, va_K.moved hW.alike hKc, hDc.weaken (fun _ _ _ _ => trivial), xE.warm hW hE⟩⟩ rfl rfl hl.1 rfl (lv_room (Nat.le_of_ble_eq_true rfl)) dX12_feed_17 ⟨Nat.le_of_ble_eq_true rfl, Nat.le_of_ble_eq_true rfl⟩) hS (fun q _ h => hFc q h) hFc (fun u t H1 locs ht hvm hw hB hz1 hk1 hS => ?_)
  obtain ⟨f_3, hP1, hK1, hD1⟩ := hB
  rw [ht] at hP1
  have hK1 := va_K.moved hvm.symm hK1
  obtain ⟨hP, hD⟩ := va_join (wr := []) (w1 := [(h0, .inr (12, [.ref s0, .int 4, .int 0, .ref s3, .ref s4, .ref s5, .ref s6, .ref s7, .int 0, .int 0, .int 0, .int 0, .int 0, .int 0, .int 0, .ref s15, .int 0, .ref s17, .int 0, .ref s19, .ref s20, .int (-1), .int 0, .int 0, .int 0, .int 0, .int 0, .ref s27, .int 0, .ref s29, .ref s30, .ref s31, .int 0, .int 0, .int 0, .ref s35, .ref s36, .ref s37, .long 0, .ref s39, .ref s40, .ref s41, .ref s42])), (s0, .inl (k0, 400, .inl f_3))]) hP hD [0, 1] [] rfl rfl (by decide) (by decide) hk1 hFc hP1 hD1
  generalize H1 = H at hP hS ⊢
  have hP : va_P (dC, dI) classes [(h0, .inr (12, [.ref s0, .int 4, .int 0, .ref s3, .ref s4, .ref s5, .ref s6, .ref s7, .int 0, .int 0, .int 0, .int 0, .int 0, .int 0, .int 0, .ref s15, .int 0, .ref s17, .int 0, .ref s19, .ref s20, .int (-1), .int 0, .int 0, .int 0, .int 0, .int 0, .ref s27, .int 0, .ref s29, .ref s30, .ref s31, .int 0, .int 0, .int 0, .ref s35, .ref s36, .ref s37, .long 0, .ref s39, .ref s40, .ref s41, .ref s42])), (s0, .inl (k0, 400, .inl f_3))] H := hP
  have hD : va_D A [(h0, .inr (12, [.ref s0, .int 4, .int 0, .ref s3, .ref s4, .ref s5, .ref s6, .ref s7, .int 0, .int 0, .int 0, .int 0, .int 0, .int 0, .int 0, .ref s15, .int 0, .ref s17, .int 0, .ref s19, .ref s20, .int (-1), .int 0, .int 0, .int 0, .int 0, .int 0, .ref s27, .int 0, .ref s29, .ref s30, .ref s31, .int 0, .int 0, .int 0, .ref s35, .ref s36, .ref s37, .long 0, .ref s39, .ref s40, .ref s41, .ref s42])), (s0, .inl (k0, 400, .inl f_3))] := hD
  refine lv_aload_n hx hb dX12_feed_20 rfl (lv_at hl 0 rfl) ?_
  refine lv_iload_n hx hb dX12_feed_21 rfl (lv_at hl 2 rfl) ?_
  have hPc := hP.sub (ws' := [(h0, .inr (12, [.ref s0, .int 4, .int 0, .ref s3, .ref s4, .ref s5, .ref s6, .ref s7, .int 0, .int 0, .int 0, .int 0, .int 0, .int 0, .int 0, .ref s15, .int 0, .ref s17, .int 0, .ref s19, .ref s20, .int (-1), .int 0, .int 0, .int 0, .int 0, .int 0, .ref s27, .int 0, .ref s29, .ref s30, .ref s31, .int 0, .int 0, .int 0, .ref s35, .ref s36, .ref s37, .long 0, .ref s39, .ref s40, .ref s41, .ref s42])), (s0, .inl (k0, 400, .inl f_3))]) [0, 1] rfl
  have hDc := hD.sub (ws' := [(h0, .inr (12, [.ref s0, .int 4, .int 0, .ref s3, .ref s4, .ref s5, .ref s6, .ref s7, .int 0, .int 0, .int 0, .int 0, .int 0, .int 0, .int 0, .ref s15, .int 0, .ref s17, .int 0, .ref s19, .ref s20, .int (-1), .int 0, .int 0, .int 0, .int 0, .int 0, .ref s27, .int 0, .ref s29, .ref s30, .ref s31, .int 0, .int 0, .int 0, .ref s35, .ref s36, .ref s37, .long 0, .ref s39, .ref s40, .ref s41, .ref s42])), (s0, .inl (k0, 400, .inl f_3))]) [0, 1] (by decide) rfl
  have hKc := hK.sub (tys' := [(k0, .byte)]) [0] rfl
  have hFc := va_free (wc := [(h0, .inr (12, [.ref s0, .int 4, .int 0, .ref s3, .ref s4, .ref s5, .ref s6, .ref s7, .int 0, .int 0, .int 0, .int 0, .int 0, .int 0, .int 0, .ref s15, .int 0, .ref s17, .int 0, .ref s19, .ref s20, .int (-1), .int 0, .int 0, .int 0, .int 0, .int 0, .ref s27, .int 0, .ref s29, .ref s30, .ref s31, .int 0, .int 0, .int 0, .ref s35, .ref s36, .ref s37, .long 0, .ref s39, .ref s40, .ref s41, .ref s42])), (s0, .inl (k0, 400, .inl f_3))]) hD hS hA [0, 1] rfl
  refine va_callv (va_runV (As := [.int x1]) (rest := []) ⟨hx, hb, hml, hown, hq⟩ (c_M_four_4 l dC dI _ h0 s0 s3 s4 s5 s6 s7 s15 s17 s19 s20 s27 s29 s30 s31 s35 s36 s37 s39 s40 s41 s42 k0 f_3 x1 ) (cwV 1 hq (gV qw_1295 qw_1297 qw_39 qw_131 qw_1298) rfl rfl rfl (by decide +kernel) ⟨Nat.le_of_ble_eq_true rfl, Nat.le_of_ble_eq_true rfl⟩) ⟨fun a U g mk q => by obtain ⟨q0, q1, qP, qK, qD, qE⟩ := q; exact ⟨q0, q1, qP, va_K.moved (u := U) (U := U.calling g mk a) (Vm.Alike.refl U.vm) qK, qD, xE.same rfl qE⟩, va_recv hKc hPc (ci := 12) (q0 := 0) rfl rfl, fun U hU hW => ⟨rfl, by rw [hU], by rw [hU]; exact hPc, va_K.moved hW.alike hKc, hDc.weaken (fun _ _ _ _ => trivial), xE.warm hW hE⟩⟩ rfl rfl hl.1 rfl (lv_room (Nat.le_of_ble_eq_true rfl)) dX12_feed_22 ⟨Nat.le_of_ble_eq_true rfl, Nat.le_of_ble_eq_true rfl⟩) hS (fun q _ h => hFc q h) hFc (fun u t H1 locs ht hvm hw hB hz1 hk1 hS => ?_)
  obtain ⟨f_5, hP1, hK1, hD1⟩ := hB
  rw [ht] at hP1
  have hK1 := va_K.moved hvm.symm hK1
  obtain ⟨hP, hD⟩ := va_join (wr := []) (w1 := [(h0, .inr (12, [.ref s0, .int 8, .int 0, .ref s3, .ref s4, .ref s5, .ref s6, .ref s7, .int 0, .int 0, .int 0, .int 0, .int 0, .int 0, .int 0, .ref s15, .int 0, .ref s17, .int 0, .ref s19, .ref s20, .int (-1), .int 0, .int 0, .int 0, .int 0, .int 0, .ref s27, .int 0, .ref s29, .ref s30, .ref s31, .int 0, .int 0, .int 0, .ref s35, .ref s36, .ref s37, .long 0, .ref s39, .ref s40, .ref s41, .ref s42])), (s0, .inl (k0, 400, .inl f_5))]) hP hD [0, 1] [] rfl rfl (by decide) (by decide) hk1 hFc hP1 hD1
  generalize H1 = H at hP hS ⊢
  have hP : va_P (dC, dI) classes [(h0, .inr (12, [.ref s0, .int 8, .int 0, .ref s3, .ref s4, .ref s5, .ref s6, .ref s7, .int 0, .int 0, .int 0, .int 0, .int 0, .int 0, .int 0, .ref s15, .int 0, .ref s17, .int 0, .ref s19, .ref s20, .int (-1), .int 0, .int 0, .int 0, .int 0, .int 0, .ref s27, .int 0, .ref s29, .ref s30, .ref s31, .int 0, .int 0, .int 0, .ref s35, .ref s36, .ref s37, .long 0, .ref s39, .ref s40, .ref s41, .ref s42])), (s0, .inl (k0, 400, .inl f_5))] H := hP
  have hD : va_D A [(h0, .inr (12, [.ref s0, .int 8, .int 0, .ref s3, .ref s4, .ref s5, .ref s6, .ref s7, .int 0, .int 0, .int 0, .int 0, .int 0, .int 0, .int 0, .ref s15, .int 0, .ref s17, .int 0, .ref s19, .ref s20, .int (-1), .int 0, .int 0, .int 0, .int 0, .int 0, .ref s27, .int 0, .ref s29, .ref s30, .ref s31, .int 0, .int 0, .int 0, .ref s35, .ref s36, .ref s37, .long 0, .ref s39, .ref s40, .ref s41, .ref s42])), (s0, .inl (k0, 400, .inl f_5))] := hD
  refine lv_aload_n hx hb dX12_feed_25 rfl (lv_at hl 0 rfl) ?_
  refine lv_iload_n hx hb dX12_feed_26 rfl (lv_at hl 3 rfl) ?_
  have hPc := hP.sub (ws' := [(h0, .inr (12, [.ref s0, .int 8, .int 0, .ref s3, .ref s4, .ref s5, .ref s6, .ref s7, .int 0, .int 0, .int 0, .int 0, .int 0, .int 0, .int 0, .ref s15, .int 0, .ref s17, .int 0, .ref s19, .ref s20, .int (-1), .int 0, .int 0, .int 0, .int 0, .int 0, .ref s27, .int 0, .ref s29, .ref s30, .ref s31, .int 0, .int 0, .int 0, .ref s35, .ref s36, .ref s37, .long 0, .ref s39, .ref s40, .ref s41, .ref s42])), (s0, .inl (k0, 400, .inl f_5))]) [0, 1] rfl
  have hDc := hD.sub (ws' := [(h0, .inr (12, [.ref s0, .int 8, .int 0, .ref s3, .ref s4, .ref s5, .ref s6, .ref s7, .int 0, .int 0, .int 0, .int 0, .int 0, .int 0, .int 0, .ref s15, .int 0, .ref s17, .int 0, .ref s19, .ref s20, .int (-1), .int 0, .int 0, .int 0, .int 0, .int 0, .ref s27, .int 0, .ref s29, .ref s30, .ref s31, .int 0, .int 0, .int 0, .ref s35, .ref s36, .ref s37, .long 0, .ref s39, .ref s40, .ref s41, .ref s42])), (s0, .inl (k0, 400, .inl f_5))]) [0, 1] (by decide) rfl
  have hKc := hK.sub (tys' := [(k0, .byte)]) [0] rfl
  have hFc := va_free (wc := [(h0, .inr (12, [.ref s0, .int 8, .int 0, .ref s3, .ref s4, .ref s5, .ref s6, .ref s7, .int 0, .int 0, .int 0, .int 0, .int 0, .int 0, .int 0, .ref s15, .int 0, .ref s17, .int 0, .ref s19, .ref s20, .int (-1), .int 0, .int 0, .int 0, .int 0, .int 0, .ref s27, .int 0, .ref s29, .ref s30, .ref s31, .int 0, .int 0, .int 0, .ref s35, .ref s36, .ref s37, .long 0, .ref s39, .ref s40, .ref s41, .ref s42])), (s0, .inl (k0, 400, .inl f_5))]) hD hS hA [0, 1] rfl
  refine va_callv (va_runV (As := [.int x2]) (rest := []) ⟨hx, hb, hml, hown, hq⟩ (c_M_four_8 l dC dI _ h0 s0 s3 s4 s5 s6 s7 s15 s17 s19 s20 s27 s29 s30 s31 s35 s36 s37 s39 s40 s41 s42 k0 f_5 x2 ) (cwV 1 hq (gV qw_1295 qw_1297 qw_39 qw_131 qw_1298) rfl rfl rfl (by decide +kernel) ⟨Nat.le_of_ble_eq_true rfl, Nat.le_of_ble_eq_true rfl⟩) ⟨fun a U g mk q => by obtain ⟨q0, q1, qP, qK, qD, qE⟩ := q; exact ⟨q0, q1, qP, va_K.moved (u := U) (U := U.calling g mk a) (Vm.Alike.refl U.vm) qK, qD, xE.same rfl qE⟩, va_recv hKc hPc (ci := 12) (q0 := 0) rfl rfl, fun U hU hW => ⟨rfl, by rw [hU], by rw [hU]; exact hPc, va_K.moved hW.alike hKc, hDc.weaken (fun _ _ _ _ => trivial), xE.warm hW hE⟩⟩ rfl rfl hl.1 rfl (lv_room (Nat.le_of_ble_eq_true rfl)) dX12_feed_27 ⟨Nat.le_of_ble_eq_true rfl, Nat.le_of_ble_eq_true rfl⟩) hS (fun q _ h => hFc q h) hFc (fun u t H1 locs ht hvm hw hB hz1 hk1 hS => ?_)
  obtain ⟨f_7, hP1, hK1, hD1⟩ := hB
  rw [ht] at hP1
  have hK1 := va_K.moved hvm.symm hK1
  obtain ⟨hP, hD⟩ := va_join (wr := []) (w1 := [(h0, .inr (12, [.ref s0, .int 12, .int 0, .ref s3, .ref s4, .ref s5, .ref s6, .ref s7, .int 0, .int 0, .int 0, .int 0, .int 0, .int 0, .int 0, .ref s15, .int 0, .ref s17, .int 0, .ref s19, .ref s20, .int (-1), .int 0, .int 0, .int 0, .int 0, .int 0, .ref s27, .int 0, .ref s29, .ref s30, .ref s31, .int 0, .int 0, .int 0, .ref s35, .ref s36, .ref s37, .long 0, .ref s39, .ref s40, .ref s41, .ref s42])), (s0, .inl (k0, 400, .inl f_7))]) hP hD [0, 1] [] rfl rfl (by decide) (by decide) hk1 hFc hP1 hD1
  generalize H1 = H at hP hS ⊢
  have hP : va_P (dC, dI) classes [(h0, .inr (12, [.ref s0, .int 12, .int 0, .ref s3, .ref s4, .ref s5, .ref s6, .ref s7, .int 0, .int 0, .int 0, .int 0, .int 0, .int 0, .int 0, .ref s15, .int 0, .ref s17, .int 0, .ref s19, .ref s20, .int (-1), .int 0, .int 0, .int 0, .int 0, .int 0, .ref s27, .int 0, .ref s29, .ref s30, .ref s31, .int 0, .int 0, .int 0, .ref s35, .ref s36, .ref s37, .long 0, .ref s39, .ref s40, .ref s41, .ref s42])), (s0, .inl (k0, 400, .inl f_7))] H := hP
  have hD : va_D A [(h0, .inr (12, [.ref s0, .int 12, .int 0, .ref s3, .ref s4, .ref s5, .ref s6, .ref s7, .int 0, .int 0, .int 0, .int 0, .int 0, .int 0, .int 0, .ref s15, .int 0, .ref s17, .int 0, .ref s19, .ref s20, .int (-1), .int 0, .int 0, .int 0, .int 0, .int 0, .ref s27, .int 0, .ref s29, .ref s30, .ref s31, .int 0, .int 0, .int 0, .ref s35, .ref s36, .ref s37, .long 0, .ref s39, .ref s40, .ref s41, .ref s42])), (s0, .inl (k0, 400, .inl f_7))] := hD
  refine lv_aload_n hx hb dX12_feed_30 rfl (lv_at hl 0 rfl) ?_
  refine lv_iload hx hb dX12_feed_31 (lv_at hl 4 rfl) ?_
  have hPc := hP.sub (ws' := [(h0, .inr (12, [.ref s0, .int 12, .int 0, .ref s3, .ref s4, .ref s5, .ref s6, .ref s7, .int 0, .int 0, .int 0, .int 0, .int 0, .int 0, .int 0, .ref s15, .int 0, .ref s17, .int 0, .ref s19, .ref s20, .int (-1), .int 0, .int 0, .int 0, .int 0, .int 0, .ref s27, .int 0, .ref s29, .ref s30, .ref s31, .int 0, .int 0, .int 0, .ref s35, .ref s36, .ref s37, .long 0, .ref s39, .ref s40, .ref s41, .ref s42])), (s0, .inl (k0, 400, .inl f_7))]) [0, 1] rfl
  have hDc := hD.sub (ws' := [(h0, .inr (12, [.ref s0, .int 12, .int 0, .ref s3, .ref s4, .ref s5, .ref s6, .ref s7, .int 0, .int 0, .int 0, .int 0, .int 0, .int 0, .int 0, .ref s15, .int 0, .ref s17, .int 0, .ref s19, .ref s20, .int (-1), .int 0, .int 0, .int 0, .int 0, .int 0, .ref s27, .int 0, .ref s29, .ref s30, .ref s31, .int 0, .int 0, .int 0, .ref s35, .ref s36, .ref s37, .long 0, .ref s39, .ref s40, .ref s41, .ref s42])), (s0, .inl (k0, 400, .inl f_7))]) [0, 1] (by decide) rfl
  have hKc := hK.sub (tys' := [(k0, .byte)]) [0] rfl
  have hFc := va_free (wc := [(h0, .inr (12, [.ref s0, .int 12, .int 0, .ref s3, .ref s4, .ref s5, .ref s6, .ref s7, .int 0, .int 0, .int 0, .int 0, .int 0, .int 0, .int 0, .ref s15, .int 0, .ref s17, .int 0, .ref s19, .ref s20, .int (-1), .int 0, .int 0, .int 0, .int 0, .int 0, .ref s27, .int 0, .ref s29, .ref s30, .ref s31, .int 0, .int 0, .int 0, .ref s35, .ref s36, .ref s37, .long 0, .ref s39, .ref s40, .ref s41, .ref s42])), (s0, .inl (k0, 400, .inl f_7))]) hD hS hA [0, 1] rfl
  refine va_callv (va_runV (As := [.int x3]) (rest := []) ⟨hx, hb, hml, hown, hq⟩ (c_M_four_12 l dC dI _ h0 s0 s3 s4 s5 s6 s7 s15 s17 s19 s20 s27 s29 s30 s31 s35 s36 s37 s39 s40 s41 s42 k0 f_7 x3 ) (cwV 1 hq (gV qw_1295 qw_1297 qw_39 qw_131 qw_1298) rfl rfl rfl (by decide +kernel) ⟨Nat.le_of_ble_eq_true rfl, Nat.le_of_ble_eq_true rfl⟩) ⟨fun a U g mk q => by obtain ⟨q0, q1, qP, qK, qD, qE⟩ := q; exact ⟨q0, q1, qP, va_K.moved (u := U) (U := U.calling g mk a) (Vm.Alike.refl U.vm) qK, qD, xE.same rfl qE⟩, va_recv hKc hPc (ci := 12) (q0 := 0) rfl rfl, fun U hU hW => ⟨rfl, by rw [hU], by rw [hU]; exact hPc, va_K.moved hW.alike hKc, hDc.weaken (fun _ _ _ _ => trivial), xE.warm hW hE⟩⟩ rfl rfl hl.1 rfl (lv_room (Nat.le_of_ble_eq_true rfl)) dX12_feed_33 ⟨Nat.le_of_ble_eq_true rfl, Nat.le_of_ble_eq_true rfl⟩) hS (fun q _ h => hFc q h) hFc (fun u t H1 locs ht hvm hw hB hz1 hk1 hS => ?_)
  obtain ⟨f_9, hP1, hK1, hD1⟩ := hB
  rw [ht] at hP1
  have hK1 := va_K.moved hvm.symm hK1
  obtain ⟨hP, hD⟩ := va_join (wr := []) (w1 := [(h0, .inr (12, [.ref s0, .int 16, .int 0, .ref s3, .ref s4, .ref s5, .ref s6, .ref s7, .int 0, .int 0, .int 0, .int 0, .int 0, .int 0, .int 0, .ref s15, .int 0, .ref s17, .int 0, .ref s19, .ref s20, .int (-1), .int 0, .int 0, .int 0, .int 0, .int 0, .ref s27, .int 0, .ref s29, .ref s30, .ref s31, .int 0, .int 0, .int 0, .ref s35, .ref s36, .ref s37, .long 0, .ref s39, .ref s40, .ref s41, .ref s42])), (s0, .inl (k0, 400, .inl f_9))]) hP hD [0, 1] [] rfl rfl (by decide) (by decide) hk1 hFc hP1 hD1
  generalize H1 = H at hP hS ⊢
  have hP : va_P (dC, dI) classes [(h0, .inr (12, [.ref s0, .int 16, .int 0, .ref s3, .ref s4, .ref s5, .ref s6, .ref s7, .int 0, .int 0, .int 0, .int 0, .int 0, .int 0, .int 0, .ref s15, .int 0, .ref s17, .int 0, .ref s19, .ref s20, .int (-1), .int 0, .int 0, .int 0, .int 0, .int 0, .ref s27, .int 0, .ref s29, .ref s30, .ref s31, .int 0, .int 0, .int 0, .ref s35, .ref s36, .ref s37, .long 0, .ref s39, .ref s40, .ref s41, .ref s42])), (s0, .inl (k0, 400, .inl f_9))] H := hP
  have hD : va_D A [(h0, .inr (12, [.ref s0, .int 16, .int 0, .ref s3, .ref s4, .ref s5, .ref s6, .ref s7, .int 0, .int 0, .int 0, .int 0, .int 0, .int 0, .int 0, .ref s15, .int 0, .ref s17, .int 0, .ref s19, .ref s20, .int (-1), .int 0, .int 0, .int 0, .int 0, .int 0, .ref s27, .int 0, .ref s29, .ref s30, .ref s31, .int 0, .int 0, .int 0, .ref s35, .ref s36, .ref s37, .long 0, .ref s39, .ref s40, .ref s41, .ref s42])), (s0, .inl (k0, 400, .inl f_9))] := hD
  refine lv_aload_n hx hb dX12_feed_36 rfl (lv_at hl 0 rfl) ?_
  refine lv_iload hx hb dX12_feed_37 (lv_at hl 5 rfl) ?_
  have hPc := hP.sub (ws' := [(h0, .inr (12, [.ref s0, .int 16, .int 0, .ref s3, .ref s4, .ref s5, .ref s6, .ref s7, .int 0, .int 0, .int 0, .int 0, .int 0, .int 0, .int 0, .ref s15, .int 0, .ref s17, .int 0, .ref s19, .ref s20, .int (-1), .int 0, .int 0, .int 0, .int 0, .int 0, .ref s27, .int 0, .ref s29, .ref s30, .ref s31, .int 0, .int 0, .int 0, .ref s35, .ref s36, .ref s37, .long 0, .ref s39, .ref s40, .ref s41, .ref s42])), (s0, .inl (k0, 400, .inl f_9))]) [0, 1] rfl
  have hDc := hD.sub (ws' := [(h0, .inr (12, [.ref s0, .int 16, .int 0, .ref s3, .ref s4, .ref s5, .ref s6, .ref s7, .int 0, .int 0, .int 0, .int 0, .int 0, .int 0, .int 0, .ref s15, .int 0, .ref s17, .int 0, .ref s19, .ref s20, .int (-1), .int 0, .int 0, .int 0, .int 0, .int 0, .ref s27, .int 0, .ref s29, .ref s30, .ref s31, .int 0, .int 0, .int 0, .ref s35, .ref s36, .ref s37, .long 0, .ref s39, .ref s40, .ref s41, .ref s42])), (s0, .inl (k0, 400, .inl f_9))]) [0, 1] (by decide) rfl
  have hKc := hK.sub (tys' := [(k0, .byte)]) [0] rfl
  have hFc := va_free (wc := [(h0, .inr (12, [.ref s0, .int 16, .int 0, .ref s3, .ref s4, .ref s5, .ref s6, .ref s7, .int 0, .int 0, .int 0, .int 0, .int 0, .int 0, .int 0, .ref s15, .int 0, .ref s17, .int 0, .ref s19, .ref s20, .int (-1), .int 0, .int 0, .int 0, .int 0, .int 0, .ref s27, .int 0, .ref s29, .ref s30, .ref s31, .int 0, .int 0, .int 0, .ref s35, .ref s36, .ref s37, .long 0, .ref s39, .ref s40, .ref s41, .ref s42])), (s0, .inl (k0, 400, .inl f_9))]) hD hS hA [0, 1] rfl
  refine va_callv (va_runV (As := [.int x4]) (rest := []) ⟨hx, hb, hml, hown, hq⟩ (c_M_four_16 l dC dI _ h0 s0 s3 s4 s5 s6 s7 s15 s17 s19 s20 s27 s29 s30 s31 s35 s36 s37 s39 s40 s41 s42 k0 f_9 x4 ) (cwV 1 hq (gV qw_1295 qw_1297 qw_39 qw_131 qw_1298) rfl rfl rfl (by decide +kernel) ⟨Nat.le_of_ble_eq_true rfl, Nat.le_of_ble_eq_true rfl⟩) ⟨fun a U g mk q => by obtain ⟨q0, q1, qP, qK, qD, qE⟩ := q; exact ⟨q0, q1, qP, va_K.moved (u := U) (U := U.calling g mk a) (Vm.Alike.refl U.vm) qK, qD, xE.same rfl qE⟩, va_recv hKc hPc (ci := 12) (q0 := 0) rfl rfl, fun U hU hW => ⟨rfl, by rw [hU], by rw [hU]; exact hPc, va_K.moved hW.alike hKc, hDc.weaken (fun _ _ _ _ => trivial), xE.warm hW hE⟩⟩ rfl rfl hl.1 rfl (lv_room (Nat.le_of_ble_eq_true rfl)) dX12_feed_39 ⟨Nat.le_of_ble_eq_true rfl, Nat.le_of_ble_eq_true rfl⟩) hS (fun q _ h => hFc q h) hFc (fun u t H1 locs ht hvm hw hB hz1 hk1 hS => ?_)
  obtain ⟨f_11, hP1, hK1, hD1⟩ := hB
  rw [ht] at hP1
  have hK1 := va_K.moved hvm.symm hK1
  obtain ⟨hP, hD⟩ := va_join (wr := []) (w1 := [(h0, .inr (12, [.ref s0, .int 20, .int 0, .ref s3, .ref s4, .ref s5, .ref s6, .ref s7, .int 0, .int 0, .int 0, .int 0, .int 0, .int 0, .int 0, .ref s15, .int 0, .ref s17, .int 0, .ref s19, .ref s20, .int (-1), .int 0, .int 0, .int 0, .int 0, .int 0, .ref s27, .int 0, .ref s29, .ref s30, .ref s31, .int 0, .int 0, .int 0, .ref s35, .ref s36, .ref s37, .long 0, .ref s39, .ref s40, .ref s41, .ref s42])), (s0, .inl (k0, 400, .inl f_11))]) hP hD [0, 1] [] rfl rfl (by decide) (by decide) hk1 hFc hP1 hD1
  generalize H1 = H at hP hS ⊢
  have hP : va_P (dC, dI) classes [(h0, .inr (12, [.ref s0, .int 20, .int 0, .ref s3, .ref s4, .ref s5, .ref s6, .ref s7, .int 0, .int 0, .int 0, .int 0, .int 0, .int 0, .int 0, .ref s15, .int 0, .ref s17, .int 0, .ref s19, .ref s20, .int (-1), .int 0, .int 0, .int 0, .int 0, .int 0, .ref s27, .int 0, .ref s29, .ref s30, .ref s31, .int 0, .int 0, .int 0, .ref s35, .ref s36, .ref s37, .long 0, .ref s39, .ref s40, .ref s41, .ref s42])), (s0, .inl (k0, 400, .inl f_11))] H := hP
  have hD : va_D A [(h0, .inr (12, [.ref s0, .int 20, .int 0, .ref s3, .ref s4, .ref s5, .ref s6, .ref s7, .int 0, .int 0, .int 0, .int 0, .int 0, .int 0, .int 0, .ref s15, .int 0, .ref s17, .int 0, .ref s19, .ref s20, .int (-1), .int 0, .int 0, .int 0, .int 0, .int 0, .ref s27, .int 0, .ref s29, .ref s30, .ref s31, .int 0, .int 0, .int 0, .ref s35, .ref s36, .ref s37, .long 0, .ref s39, .ref s40, .ref s41, .ref s42])), (s0, .inl (k0, 400, .inl f_11))] := hD
  refine lv_aload_n hx hb dX12_feed_42 rfl (lv_at hl 0 rfl) ?_
  refine va_get (D := (dC, dI)) (ci := 12) (v := .int 20) (C := RX12) (T := TX12) (N := 43) hx hb hq inX12 hown hK hP 0 rfl rfl 1 (by decide) (hq _ qw_1161) (fun _ h9 => h9) rfl dX12_feed_43 ?_
  refine W.widen (k := 0) (n := 0) (Nat.le_of_ble_eq_true rfl) (Nat.le_of_ble_eq_true rfl) ?_
  exact W.iret (v := 20) hx hb hr (fun t ht hW => ⟨⟨20, (), rfl, rfl, trivial⟩, hS.F ht⟩) hS.2.2 dX12_feed_46
