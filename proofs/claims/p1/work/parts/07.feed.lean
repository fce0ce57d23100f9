theorem qw_0 : (.selects RX11 yX11_addBytes yX11_addBytes : Cond) ∈ wsA := mA (i := 0) (by decide +kernel) rfl
theorem qw_511 : (.methodLink RX11 103 yX11_addBytes : Cond) ∈ wsA := mA (i := 511) (by decide +kernel) rfl
theorem qw_513 : (.instanceMethod yX11_addBytes : Cond) ∈ wsA := mA (i := 513) (by decide +kernel) rfl
theorem qw_514 : (.code yX11_addBytes cX11_addBytes 3 none : Cond) ∈ wsA := mA (i := 514) (by decide +kernel) rfl
theorem dX11_addBytes_0 : decode cX11_addBytes 0 = .ok (.bipush 24, 2) := by decide +kernel
theorem dX11_addBytes_2 : decode cX11_addBytes 2 = .ok (.istore_n 2, 1) := by decide +kernel
theorem dX11_addBytes_3 : decode cX11_addBytes 3 = .ok (.iload_n 2, 1) := by decide +kernel
theorem dX11_addBytes_4 : decode cX11_addBytes 4 = .ok (.ifCond .lt 54, 3) := by decide +kernel
theorem dX11_addBytes_7 : decode cX11_addBytes 7 = .ok (.aload_n 0, 1) := by decide +kernel
theorem dX11_addBytes_8 : decode cX11_addBytes 8 = .ok (.getfield 100, 3) := by decide +kernel
theorem dX11_addBytes_11 : decode cX11_addBytes 11 = .ok (.ifCond .lt 41, 3) := by decide +kernel
theorem dX11_addBytes_14 : decode cX11_addBytes 14 = .ok (.aload_n 0, 1) := by decide +kernel
theorem dX11_addBytes_15 : decode cX11_addBytes 15 = .ok (.getfield 100, 3) := by decide +kernel
theorem dX11_addBytes_18 : decode cX11_addBytes 18 = .ok (.aload_n 0, 1) := by decide +kernel
theorem dX11_addBytes_19 : decode cX11_addBytes 19 = .ok (.getfield 9, 3) := by decide +kernel
theorem dX11_addBytes_22 : decode cX11_addBytes 22 = .ok (.arraylength, 1) := by decide +kernel
theorem dX11_addBytes_23 : decode cX11_addBytes 23 = .ok (.if_icmp .ge 29, 3) := by decide +kernel
theorem dX11_addBytes_26 : decode cX11_addBytes 26 = .ok (.aload_n 0, 1) := by decide +kernel
theorem dX11_addBytes_27 : decode cX11_addBytes 27 = .ok (.getfield 9, 3) := by decide +kernel
theorem dX11_addBytes_30 : decode cX11_addBytes 30 = .ok (.aload_n 0, 1) := by decide +kernel
theorem dX11_addBytes_31 : decode cX11_addBytes 31 = .ok (.getfield 100, 3) := by decide +kernel
theorem dX11_addBytes_34 : decode cX11_addBytes 34 = .ok (.iload_n 1, 1) := by decide +kernel
theorem dX11_addBytes_35 : decode cX11_addBytes 35 = .ok (.iload_n 2, 1) := by decide +kernel
theorem dX11_addBytes_36 : decode cX11_addBytes 36 = .ok (.iushr, 1) := by decide +kernel
theorem dX11_addBytes_37 : decode cX11_addBytes 37 = .ok (.sipush 255, 3) := by decide +kernel
theorem dX11_addBytes_40 : decode cX11_addBytes 40 = .ok (.iand, 1) := by decide +kernel
theorem dX11_addBytes_41 : decode cX11_addBytes 41 = .ok (.iastore, 1) := by decide +kernel
theorem dX11_addBytes_42 : decode cX11_addBytes 42 = .ok (.aload_n 0, 1) := by decide +kernel
theorem dX11_addBytes_43 : decode cX11_addBytes 43 = .ok (.dup, 1) := by decide +kernel
theorem dX11_addBytes_44 : decode cX11_addBytes 44 = .ok (.getfield 100, 3) := by decide +kernel
theorem dX11_addBytes_47 : decode cX11_addBytes 47 = .ok (.iconst 1, 1) := by decide +kernel
theorem dX11_addBytes_48 : decode cX11_addBytes 48 = .ok (.iadd, 1) := by decide +kernel
theorem dX11_addBytes_49 : decode cX11_addBytes 49 = .ok (.putfield 100, 3) := by decide +kernel
theorem dX11_addBytes_52 : decode cX11_addBytes 52 = .ok (.iinc 2 (-8), 3) := by decide +kernel
theorem dX11_addBytes_55 : decode cX11_addBytes 55 = .ok (.goto (-52), 3) := by decide +kernel
theorem dX11_addBytes_58 : decode cX11_addBytes 58 = .ok (.return_, 1) := by decide +kernel
theorem dX11_feed_0 : decode cX11_feed 0 = .ok (.aload_n 0, 1) := by decide +kernel
theorem dX11_feed_1 : decode cX11_feed 1 = .ok (.getfield 100, 3) := by decide +kernel
theorem dX11_feed_4 : decode cX11_feed 4 = .ok (.sipush 380, 3) := by decide +kernel
theorem dX11_feed_7 : decode cX11_feed 7 = .ok (.if_icmp .le 5, 3) := by decide +kernel
theorem dX11_feed_12 : decode cX11_feed 12 = .ok (.aload_n 0, 1) := by decide +kernel
theorem dX11_feed_13 : decode cX11_feed 13 = .ok (.iload_n 1, 1) := by decide +kernel
theorem dX11_feed_14 : decode cX11_feed 14 = .ok (.invokevirtual 103, 3) := by decide +kernel
theorem dX11_feed_17 : decode cX11_feed 17 = .ok (.aload_n 0, 1) := by decide +kernel
theorem dX11_feed_18 : decode cX11_feed 18 = .ok (.iload_n 2, 1) := by decide +kernel
theorem dX11_feed_19 : decode cX11_feed 19 = .ok (.invokevirtual 103, 3) := by decide +kernel
theorem dX11_feed_22 : decode cX11_feed 22 = .ok (.aload_n 0, 1) := by decide +kernel
theorem dX11_feed_23 : decode cX11_feed 23 = .ok (.iload_n 3, 1) := by decide +kernel
theorem dX11_feed_24 : decode cX11_feed 24 = .ok (.invokevirtual 103, 3) := by decide +kernel
theorem dX11_feed_27 : decode cX11_feed 27 = .ok (.aload_n 0, 1) := by decide +kernel
theorem dX11_feed_28 : decode cX11_feed 28 = .ok (.iload 4, 2) := by decide +kernel
theorem dX11_feed_30 : decode cX11_feed 30 = .ok (.invokevirtual 103, 3) := by decide +kernel
theorem dX11_feed_33 : decode cX11_feed 33 = .ok (.aload_n 0, 1) := by decide +kernel
theorem dX11_feed_34 : decode cX11_feed 34 = .ok (.iload 5, 2) := by decide +kernel
theorem dX11_feed_36 : decode cX11_feed 36 = .ok (.invokevirtual 103, 3) := by decide +kernel
theorem dX11_feed_39 : decode cX11_feed 39 = .ok (.aload_n 0, 1) := by decide +kernel
theorem dX11_feed_40 : decode cX11_feed 40 = .ok (.getfield 100, 3) := by decide +kernel
theorem dX11_feed_43 : decode cX11_feed 43 = .ok (.ireturn, 1) := by decide +kernel
set_option maxHeartbeats 4000000 in
set_option maxRecDepth 100000 in
/-- c_SB_addBytes_0 -/
theorem c_SB_addBytes_0 (l : Launch) (dC : Nat → ClassId) (dI : Nat → Nat → Nat) (sz : Nat) (h0 : Nat) (s0 : Nat) (s2 : Nat) (s3 : Nat) (s4 : Nat) (s7 : Nat) (s8 : Nat) (s9 : Nat) (s10 : Nat) (s11 : Nat) (s12 : Nat) (s13 : Nat) (s14 : Nat) (s15 : Nat) (s16 : Nat) (s17 : Nat) (k0 : ClassId) (g0 : Nat → Int32) (x0 : Int32) : Met l yX11_addBytes (.code yX11_addBytes cX11_addBytes 3 none :: wsA) ({ frames := 0, cells := 0, slots := 0, locals := 0 }) (va_Pc [.ref h0, .int x0] (fun U => U.heap.size = sz ∧ va_P (dC, dI) classes [(h0, .inr (11, [.ref s0, .int 0, .ref s2, .ref s3, .ref s4, .int 0, .int (-1), .ref s7, .ref s8, .ref s9, .ref s10, .ref s11, .ref s12, .ref s13, .ref s14, .ref s15, .ref s16, .ref s17, .int 0])), (s0, .inl (k0, 400, .inl g0))] U.heap ∧ va_K (dC, dI) classes [(k0, .int)] U ∧ va_D (fun _ => True) [(h0, .inr (11, [.ref s0, .int 0, .ref s2, .ref s3, .ref s4, .int 0, .int (-1), .ref s7, .ref s8, .ref s9, .ref s10, .ref s11, .ref s12, .ref s13, .ref s14, .ref s15, .ref s16, .ref s17, .int 0])), (s0, .inl (k0, 400, .inl g0))] ∧ xE U)) (va_Qv (fun (_ : Unit) => True) (fun _ t => ∃ (o_f_15 : Nat → Int32), va_P (dC, dI) classes [(h0, .inr (11, [.ref s0, .int 4, .ref s2, .ref s3, .ref s4, .int 0, .int (-1), .ref s7, .ref s8, .ref s9, .ref s10, .ref s11, .ref s12, .ref s13, .ref s14, .ref s15, .ref s16, .ref s17, .int 0])), (s0, .inl (k0, 400, .inl o_f_15))] t.heap ∧ va_K (dC, dI) classes [(k0, .int)] t ∧ va_D (va_A [(h0, .inr (11, [.ref s0, .int 0, .ref s2, .ref s3, .ref s4, .int 0, .int (-1), .ref s7, .ref s8, .ref s9, .ref s10, .ref s11, .ref s12, .ref s13, .ref s14, .ref s15, .ref s16, .ref s17, .int 0])), (s0, .inl (k0, 400, .inl g0))] sz) [(h0, .inr (11, [.ref s0, .int 4, .ref s2, .ref s3, .ref s4, .int 0, .int (-1), .ref s7, .ref s8, .ref s9, .ref s10, .ref s11, .ref s12, .ref s13, .ref s14, .ref s15, .ref s16, .ref s17, .int 0])), (s0, .inl (k0, 400, .inl o_f_15))]) (va_A [(h0, .inr (11, [.ref s0, .int 0, .ref s2, .ref s3, .ref s4, .int 0, .int (-1), .ref s7, .ref s8, .ref s9, .ref s10, .ref s11, .ref s12, .ref s13, .ref s14, .ref s15, .ref s16, .ref s17, .int 0])), (s0, .inl (k0, 400, .inl g0))] sz)) 0 0 (va_A [(h0, .inr (11, [.ref s0, .int 0, .ref s2, .ref s3, .ref s4, .int 0, .int (-1), .ref s7, .ref s8, .ref s9, .ref s10, .ref s11, .ref s12, .ref s13, .ref s14, .ref s15, .ref s16, .ref s17, .int 0])), (s0, .inl (k0, 400, .inl g0))] sz) := by
  refine Met.ofW (cc := cX11_addBytes) (maxL := 3) (ret := none) (by decide) rfl ?_
  intro p e s m args below meth c s₁ B hml hv
  obtain ⟨rfl, hsz, hP, hK, hD0, hE⟩ := hv
  have hx := B.exec
  have hb := B.bytes
  have hr := B.returns
  have hts := atoms_spec (ws := .code yX11_addBytes cX11_addBytes 3 none :: wsA) B.pre
  have hq : ∀ w ∈ wsA, w.before _ s = true := fun w h => hts w (List.mem_cons_of_mem _ h)
  have hown : s.vm.findClass RX11 = some m.cls := findClass_of_methodNamed B.named
  have hlocks := B.notSynchronized
  subst hsz
  have hD := hD0.self (sz := s.heap.size)
  generalize hAe : va_A [(h0, .inr (11, [.ref s0, .int 0, .ref s2, .ref s3, .ref s4, .int 0, .int (-1), .ref s7, .ref s8, .ref s9, .ref s10, .ref s11, .ref s12, .ref s13, .ref s14, .ref s15, .ref s16, .ref s17, .int 0])), (s0, .inl (k0, 400, .inl g0))] s.heap.size = A at hD ⊢
  have hA : ∀ q : Nat, s.heap.size ≤ q → A q := fun q h => by rw [← hAe]; exact Or.inr h
  have hS : va_S A s.heap s.heap [] := va_S.rf
  have hl := lv_entry ([.ref h0, .int x0]) (n := 3) (Nat.le_of_ble_eq_true rfl)
  rw [lg_entry_eq]
  generalize (lg_sl ([.ref h0, .int x0]) ++ List.replicate (3 - (lg_sl ([.ref h0, .int x0])).length) Slot.unset).toArray = ls at hl ⊢
  have hl : lv_has ls 3 [(0, .ref h0), (1, .int x0)] := hl
  refine lv_bipush (v := 24) hx hb dX11_addBytes_0 (by decide) ?_
  refine lv_istore_n (lv' := [(2, .int 24), (0, .ref h0), (1, .int x0)]) hx hb dX11_addBytes_2 rfl hl (by decide) rfl (fun ls hl => ?_)
  refine lv_iload_n hx hb dX11_addBytes_3 rfl (lv_at hl 0 rfl) ?_
  refine lv_if_lt (tgt := 58) hx hb dX11_addBytes_4 (by decide) (fun c9 => absurd c9 (by decide)) (fun _ => ?_)
  refine lv_aload_n hx hb dX11_addBytes_7 rfl (lv_at hl 1 rfl) ?_
  refine va_get (D := (dC, dI)) (ci := 11) (v := .int 0) (C := RX11) (T := TX11) (N := 19) hx hb hq inX11 hown hK hP 0 rfl rfl 1 (by decide) (hq _ qw_450) (fun _ h9 => h9) rfl dX11_addBytes_8 ?_
  refine lv_if_lt (tgt := 52) hx hb dX11_addBytes_11 (by decide) (fun c9 => absurd c9 (by decide)) (fun _ => ?_)
  refine lv_aload_n hx hb dX11_addBytes_14 rfl (lv_at hl 1 rfl) ?_
  refine va_get (D := (dC, dI)) (ci := 11) (v := .int 0) (C := RX11) (T := TX11) (N := 19) hx hb hq inX11 hown hK hP 0 rfl rfl 1 (by decide) (hq _ qw_450) (fun _ h9 => h9) rfl dX11_addBytes_15 ?_
  refine lv_aload_n hx hb dX11_addBytes_18 rfl (lv_at hl 1 rfl) ?_
  refine va_get (D := (dC, dI)) (ci := 11) (v := .ref s0) (C := RX11) (T := TX11) (N := 19) hx hb hq inX11 hown hK hP 0 rfl rfl 0 (by decide) (hq _ qw_449) (fun _ h9 => h9) rfl dX11_addBytes_19 ?_
  refine va_alen (v := 400) hx hb hK hP 1 0 rfl rfl rfl dX11_addBytes_22 ?_
  refine lv_icmp_ge (tgt := 52) hx hb dX11_addBytes_23 (by decide) (fun c9 => absurd c9 (by decide)) (fun _ => ?_)
  refine lv_aload_n hx hb dX11_addBytes_26 rfl (lv_at hl 1 rfl) ?_
  refine va_get (D := (dC, dI)) (ci := 11) (v := .ref s0) (C := RX11) (T := TX11) (N := 19) hx hb hq inX11 hown hK hP 0 rfl rfl 0 (by decide) (hq _ qw_449) (fun _ h9 => h9) rfl dX11_addBytes_27 ?_
  refine lv_aload_n hx hb dX11_addBytes_30 rfl (lv_at hl 1 rfl) ?_
  refine va_get (D := (dC, dI)) (ci := 11) (v := .int 0) (C := RX11) (T := TX11) (N := 19) hx hb hq inX11 hown hK hP 0 rfl rfl 1 (by decide) (hq _ qw_450) (fun _ h9 => h9) rfl dX11_addBytes_31 ?_
  refine lv_iload_n hx hb dX11_addBytes_34 rfl (lv_at hl 2 rfl) ?_
  refine lv_iload_n hx hb dX11_addBytes_35 rfl (lv_at hl 0 rfl) ?_
  refine lv_iushr hx hb dX11_addBytes_36 rfl ?_
  refine lv_topi (fun y_1 ey_1 => ?_)
  refine lv_sipush (v := 255) hx hb dX11_addBytes_37 (by decide) ?_
  refine lv_iand hx hb dX11_addBytes_40 ?_
  refine lv_topi (fun y_2 ey_2 => ?_)
  refine va_iast hx hb hK hP hD hS 1 0 rfl rfl (inr_ok rfl) dX11_addBytes_41 (fun H locs hP hD hS => ?_)
  generalize upd g0 (Int32.toNatClampNeg 0) y_2 = f_3 at hP hD
  have hP : va_P (dC, dI) classes [(h0, .inr (11, [.ref s0, .int 0, .ref s2, .ref s3, .ref s4, .int 0, .int (-1), .ref s7, .ref s8, .ref s9, .ref s10, .ref s11, .ref s12, .ref s13, .ref s14, .ref s15, .ref s16, .ref s17, .int 0])), (s0, .inl (k0, 400, .inl f_3))] H := hP
  have hD : va_D A [(h0, .inr (11, [.ref s0, .int 0, .ref s2, .ref s3, .ref s4, .int 0, .int (-1), .ref s7, .ref s8, .ref s9, .ref s10, .ref s11, .ref s12, .ref s13, .ref s14, .ref s15, .ref s16, .ref s17, .int 0])), (s0, .inl (k0, 400, .inl f_3))] := hD
  refine lv_aload_n hx hb dX11_addBytes_42 rfl (lv_at hl 1 rfl) ?_
  refine lv_dup hx hb dX11_addBytes_43 rfl ?_
  refine va_get (D := (dC, dI)) (ci := 11) (v := .int 0) (C := RX11) (T := TX11) (N := 19) hx hb hq inX11 hown hK hP 0 rfl rfl 1 (by decide) (hq _ qw_450) (fun _ h9 => h9) rfl dX11_addBytes_44 ?_
  refine lv_iconst (v := 1) hx hb dX11_addBytes_47 (by decide) ?_
  refine lv_iadd hx hb dX11_addBytes_48 ?_
  refine lv_topi (fun y_4 ey_4 => ?_)
  obtain rfl : y_4 = 1 := ey_4.trans (by decide)
  refine va_put (D := (dC, dI)) (ci := 11) (v := .int 1) (ty := .int) (C := RX11) (T := TX11) (N := 19) hx hb hq inX11 tyX11 tyX11_ok nmX11 hown hK hP hD hS 0 rfl rfl 1 (by decide) (hq _ qw_450) (fun _ h9 => h9) rfl (by decide +kernel) rfl rfl (Nat.le_of_ble_eq_true rfl) dX11_addBytes_49 (fun H locs hP hD hS => ?_)
  have hP : va_P (dC, dI) classes [(h0, .inr (11, [.ref s0, .int 1, .ref s2, .ref s3, .ref s4, .int 0, .int (-1), .ref s7, .ref s8, .ref s9, .ref s10, .ref s11, .ref s12, .ref s13, .ref s14, .ref s15, .ref s16, .ref s17, .int 0])), (s0, .inl (k0, 400, .inl f_3))] H := hP
  have hD : va_D A [(h0, .inr (11, [.ref s0, .int 1, .ref s2, .ref s3, .ref s4, .int 0, .int (-1), .ref s7, .ref s8, .ref s9, .ref s10, .ref s11, .ref s12, .ref s13, .ref s14, .ref s15, .ref s16, .ref s17, .int 0])), (s0, .inl (k0, 400, .inl f_3))] := hD
  refine lv_iinc (v := 16) (lv' := [(2, .int 16), (0, .ref h0), (1, .int x0)]) hx hb dX11_addBytes_52 hl (k := 0) rfl (by decide) (by decide) rfl (fun ls hl => ?_)
  refine lv_goto (tgt := 3) hx hb dX11_addBytes_55 (by decide) ?_
  refine lv_iload_n hx hb dX11_addBytes_3 rfl (lv_at hl 0 rfl) ?_
  refine lv_if_lt (tgt := 58) hx hb dX11_addBytes_4 (by decide) (fun c9 => absurd c9 (by decide)) (fun _ => ?_)
  refine lv_aload_n hx hb dX11_addBytes_7 rfl (lv_at hl 1 rfl) ?_
  refine va_get (D := (dC, dI)) (ci := 11) (v := .int 1) (C := RX11) (T := TX11) (N := 19) hx hb hq inX11 hown hK hP 0 rfl rfl 1 (by decide) (hq _ qw_450) (fun _ h9 => h9) rfl dX11_addBytes_8 ?_
  refine lv_if_lt (tgt := 52) hx hb dX11_addBytes_11 (by decide) (fun c9 => absurd c9 (by decide)) (fun _ => ?_)
  refine lv_aload_n hx hb dX11_addBytes_14 rfl (lv_at hl 1 rfl) ?_
  refine va_get (D := (dC, dI)) (ci := 11) (v := .int 1) (C := RX11) (T := TX11) (N := 19) hx hb hq inX11 hown hK hP 0 rfl rfl 1 (by decide) (hq _ qw_450) (fun _ h9 => h9) rfl dX11_addBytes_15 ?_
  refine lv_aload_n hx hb dX11_addBytes_18 rfl (lv_at hl 1 rfl) ?_
  refine va_get (D := (dC, dI)) (ci := 11) (v := .ref s0) (C := RX11) (T := TX11) (N := 19) hx hb hq inX11 hown hK hP 0 rfl rfl 0 (by decide) (hq _ qw_449) (fun _ h9 => h9) rfl dX11_addBytes_19 ?_
  refine va_alen (v := 400) hx hb hK hP 1 0 rfl rfl rfl dX11_addBytes_22 ?_
  refine lv_icmp_ge (tgt := 52) hx hb dX11_addBytes_23 (by decide) (fun c9 => absurd c9 (by decide)) (fun _ => ?_)
  refine lv_aload_n hx hb dX11_addBytes_26 rfl (lv_at hl 1 rfl) ?_
  refine va_get (D := (dC, dI)) (ci := 11) (v := .ref s0) (C := RX11) (T := TX11) (N := 19) hx hb hq inX11 hown hK hP 0 rfl rfl 0 (by decide) (hq _ qw_449) (fun _ h9 => h9) rfl dX11_addBytes_27 ?_
  refine lv_aload_n hx hb dX11_addBytes_30 rfl (lv_at hl 1 rfl) ?_
  refine va_get (D := (dC, dI)) (ci := 11) (v := .int 1) (C := RX11) (T := TX11) (N := 19) hx hb hq inX11 hown hK hP 0 rfl rfl 1 (by decide) (hq _ qw_450) (fun _ h9 => h9) rfl dX11_addBytes_31 ?_
  refine lv_iload_n hx hb dX11_addBytes_34 rfl (lv_at hl 2 rfl) ?_
  refine lv_iload_n hx hb dX11_addBytes_35 rfl (lv_at hl 0 rfl) ?_
  refine lv_iushr hx hb dX11_addBytes_36 rfl ?_
  refine lv_topi (fun y_5 ey_5 => ?_)
  refine lv_sipush (v := 255) hx hb dX11_addBytes_37 (by decide) ?_
  refine lv_iand hx hb dX11_addBytes_40 ?_
  refine lv_topi (fun y_6 ey_6 => ?_)
  refine va_iast hx hb hK hP hD hS 1 0 rfl rfl (inr_ok rfl) dX11_addBytes_41 (fun H locs hP hD hS => ?_)
  generalize upd f_3 (Int32.toNatClampNeg 1) y_6 = f_7 at hP hD
  have hP : va_P (dC, dI) classes [(h0, .inr (11, [.ref s0, .int 1, .ref s2, .ref s3, .ref s4, .int 0, .int (-1), .ref s7, .ref s8, .ref s9, .ref s10, .ref s11, .ref s12, .ref s13, .ref s14, .ref s15, .ref s16, .ref s17, .int 0])), (s0, .inl (k0, 400, .inl f_7))] H := hP
  have hD : va_D A [(h0, .inr (11, [.ref s0, .int 1, .ref s2, .ref s3, .ref s4, .int 0, .int (-1), .ref s7, .ref s8, .ref s9, .ref s10, .ref s11, .ref s12, .ref s13, .ref s14, .ref s15, .ref s16, .ref s17, .int 0])), (s0, .inl (k0, 400, .inl f_7))] := hD
  refine lv_aload_n hx hb dX11_addBytes_42 rfl (lv_at hl 1 rfl) ?_
  refine lv_dup hx hb dX11_addBytes_43 rfl ?_
  refine va_get (D := (dC, dI)) (ci := 11) (v := .int 1) (C := RX11) (T := TX11) (N := 19) hx hb hq inX11 hown hK hP 0 rfl rfl 1 (by decide) (hq _ qw_450) (fun _ h9 => h9) rfl dX11_addBytes_44 ?_
  refine lv_iconst (v := 1) hx hb dX11_addBytes_47 (by decide) ?_
  refine lv_iadd hx hb dX11_addBytes_48 ?_
  refine lv_topi (fun y_8 ey_8 => ?_)
  obtain rfl : y_8 = 2 := ey_8.trans (by decide)
  refine va_put (D := (dC, dI)) (ci := 11) (v := .int 2) (ty := .int) (C := RX11) (T := TX11) (N := 19) hx hb hq inX11 tyX11 tyX11_ok nmX11 hown hK hP hD hS 0 rfl rfl 1 (by decide) (hq _ qw_450) (fun _ h9 => h9) rfl (by decide +kernel) rfl rfl (Nat.le_of_ble_eq_true rfl) dX11_addBytes_49 (fun H locs hP hD hS => ?_)
  have hP : va_P (dC, dI) classes [(h0, .inr (11, [.ref s0, .int 2, .ref s2, .ref s3, .ref s4, .int 0, .int (-1), .ref s7, .ref s8, .ref s9, .ref s10, .ref s11, .ref s12, .ref s13, .ref s14, .ref s15, .ref s16, .ref s17, .int 0])), (s0, .inl (k0, 400, .inl f_7))] H := hP
  have hD : va_D A [(h0, .inr (11, [.ref s0, .int 2, .ref s2, .ref s3, .ref s4, .int 0, .int (-1), .ref s7, .ref s8, .ref s9, .ref s10, .ref s11, .ref s12, .ref s13, .ref s14, .ref s15, .ref s16, .ref s17, .int 0])), (s0, .inl (k0, 400, .inl f_7))] := hD
  refine lv_iinc (v := 8) (lv' := [(2, .int 8), (0, .ref h0), (1, .int x0)]) hx hb dX11_addBytes_52 hl (k := 0) rfl (by decide) (by decide) rfl (fun ls hl => ?_)
  refine lv_goto (tgt := 3) hx hb dX11_addBytes_55 (by decide) ?_
  refine lv_iload_n hx hb dX11_addBytes_3 rfl (lv_at hl 0 rfl) ?_
  refine lv_if_lt (tgt := 58) hx hb dX11_addBytes_4 (by decide) (fun c9 => absurd c9 (by decide)) (fun _ => ?_)
  refine lv_aload_n hx hb dX11_addBytes_7 rfl (lv_at hl 1 rfl) ?_
  refine va_get (D := (dC, dI)) (ci := 11) (v := .int 2) (C := RX11) (T := TX11) (N := 19) hx hb hq inX11 hown hK hP 0 rfl rfl 1 (by decide) (hq _ qw_450) (fun _ h9 => h9) rfl dX11_addBytes_8 ?_
  refine lv_if_lt (tgt := 52) hx hb dX11_addBytes_11 (by decide) (fun c9 => absurd c9 (by decide)) (fun _ => ?_)
  refine lv_aload_n hx hb dX11_addBytes_14 rfl (lv_at hl 1 rfl) ?_
  refine va_get (D := (dC, dI)) (ci := 11) (v := .int 2) (C := RX11) (T := TX11) (N := 19) hx hb hq inX11 hown hK hP 0 rfl rfl 1 (by decide) (hq _ qw_450) (fun _ h9 => h9) rfl dX11_addBytes_15 ?_
  refine lv_aload_n hx hb dX11_addBytes_18 rfl (lv_at hl 1 rfl) ?_
  refine va_get (D := (dC, dI)) (ci := 11) (v := .ref s0) (C := RX11) (T := TX11) (N := 19) hx hb hq inX11 hown hK hP 0 rfl rfl 0 (by decide) (hq _ qw_449) (fun _ h9 => h9) rfl dX11_addBytes_19 ?_
  refine va_alen (v := 400) hx hb hK hP 1 0 rfl rfl rfl dX11_addBytes_22 ?_
  refine lv_icmp_ge (tgt := 52) hx hb dX11_addBytes_23 (by decide) (fun c9 => absurd c9 (by decide)) (fun _ => ?_)
  refine lv_aload_n hx hb dX11_addBytes_26 rfl (lv_at hl 1 rfl) ?_
  refine va_get (D := (dC, dI)) (ci := 11) (v := .ref s0) (C := RX11) (T := TX11) (N := 19) hx hb hq inX11 hown hK hP 0 rfl rfl 0 (by decide) (hq _ qw_449) (fun _ h9 => h9) rfl dX11_addBytes_27 ?_
  refine lv_aload_n hx hb dX11_addBytes_30 rfl (lv_at hl 1 rfl) ?_
  refine va_get (D := (dC, dI)) (ci := 11) (v := .int 2) (C := RX11) (T := TX11) (N := 19) hx hb hq inX11 hown hK hP 0 rfl rfl 1 (by decide) (hq _ qw_450) (fun _ h9 => h9) rfl dX11_addBytes_31 ?_
  refine lv_iload_n hx hb dX11_addBytes_34 rfl (lv_at hl 2 rfl) ?_
  refine lv_iload_n hx hb dX11_addBytes_35 rfl (lv_at hl 0 rfl) ?_
  refine lv_iushr hx hb dX11_addBytes_36 rfl ?_
  refine lv_topi (fun y_9 ey_9 => ?_)
  refine lv_sipush (v := 255) hx hb dX11_addBytes_37 (by decide) ?_
  refine lv_iand hx hb dX11_addBytes_40 ?_
  refine lv_topi (fun y_10 ey_10 => ?_)
  refine va_iast hx hb hK hP hD hS 1 0 rfl rfl (inr_ok rfl) dX11_addBytes_41 (fun H locs hP hD hS => ?_)
  generalize upd f_7 (Int32.toNatClampNeg 2) y_10 = f_11 at hP hD
  have hP : va_P (dC, dI) classes [(h0, .inr (11, [.ref s0, .int 2, .ref s2, .ref s3, .ref s4, .int 0, .int (-1), .ref s7, .ref s8, .ref s9, .ref s10, .ref s11, .ref s12, .ref s13, .ref s14, .ref s15, .ref s16, .ref s17, .int 0])), (s0, .inl (k0, 400, .inl f_11))] H := hP
  have hD : va_D A [(h0, .inr (11, [.ref s0, .int 2, .ref s2, .ref s3, .ref s4, .int 0, .int (-1), .ref s7, .ref s8, .ref s9, .ref s10, .ref s11, .ref s12, .ref s13, .ref s14, .ref s15, .ref s16, .ref s17, .int 0])), (s0, .inl (k0, 400, .inl f_11))] := hD
  refine lv_aload_n hx hb dX11_addBytes_42 rfl (lv_at hl 1 rfl) ?_
  refine lv_dup hx hb dX11_addBytes_43 rfl ?_
  refine va_get (D := (dC, dI)) (ci := 11) (v := .int 2) (C := RX11) (T := TX11) (N := 19) hx hb hq inX11 hown hK hP 0 rfl rfl 1 (by decide) (hq _ qw_450) (fun _ h9 => h9) rfl dX11_addBytes_44 ?_
  refine lv_iconst (v := 1) hx hb dX11_addBytes_47 (by decide) ?_
  refine lv_iadd hx hb dX11_addBytes_48 ?_
  refine lv_topi (fun y_12 ey_12 => ?_)
  obtain rfl : y_12 = 3 := ey_12.trans (by decide)
  refine va_put (D := (dC, dI)) (ci := 11) (v := .int 3) (ty := .int) (C := RX11) (T := TX11) (N := 19) hx hb hq inX11 tyX11 tyX11_ok nmX11 hown hK hP hD hS 0 rfl rfl 1 (by decide) (hq _ qw_450) (fun _ h9 => h9) rfl (by decide +kernel) rfl rfl (Nat.le_of_ble_eq_true rfl) dX11_addBytes_49 (fun H locs hP hD hS => ?_)
  have hP : va_P (dC, dI) classes [(h0, .inr (11, [.ref s0, .int 3, .ref s2, .ref s3, .ref s4, .int 0, .int (-1), .ref s7, .ref s8, .ref s9, .ref s10, .ref s11, .ref s12, .ref s13, .ref s14, .ref s15, .ref s16, .ref s17, .int 0])), (s0, .inl (k0, 400, .inl f_11))] H := hP
  have hD : va_D A [(h0, .inr (11, [.ref s0, .int 3, .ref s2, .ref s3, .ref s4, .int 0, .int (-1), .ref s7, .ref s8, .ref s9, .ref s10, .ref s11, .ref s12, .ref s13, .ref s14, .ref s15, .ref s16, .ref s17, .int 0])), (s0, .inl (k0, 400, .inl f_11))] := hD
  refine lv_iinc (v := 0) (lv' := [(2, .int 0), (0, .ref h0), (1, .int x0)]) hx hb dX11_addBytes_52 hl (k := 0) rfl (by decide) (by decide) rfl (fun ls hl => ?_)
  refine lv_goto (tgt := 3) hx hb dX11_addBytes_55 (by decide) ?_
  refine lv_iload_n hx hb dX11_addBytes_3 rfl (lv_at hl 0 rfl) ?_
  refine lv_if_lt (tgt := 58) hx hb dX11_addBytes_4 (by decide) (fun c9 => absurd c9 (by decide)) (fun _ => ?_)
  refine lv_aload_n hx hb dX11_addBytes_7 rfl (lv_at hl 1 rfl) ?_
  refine va_get (D := (dC, dI)) (ci := 11) (v := .int 3) (C := RX11) (T := TX11) (N := 19) hx hb hq inX11 hown hK hP 0 rfl rfl 1 (by decide) (hq _ qw_450) (fun _ h9 => h9) rfl dX11_addBytes_8 ?_
  refine lv_if_lt (tgt := 52) hx hb dX11_addBytes_11 (by decide) (fun c9 => absurd c9 (by decide)) (fun _ => ?_)
  refine lv_aload_n hx hb dX11_addBytes_14 rfl (lv_at hl 1 rfl) ?_
  refine va_get (D := (dC, dI)) (ci := 11) (v := .int 3) (C := RX11) (T := TX11) (N := 19) hx hb hq inX11 hown hK hP 0 rfl rfl 1 (by decide) (hq _ qw_450) (fun _ h9 => h9) rfl dX11_addBytes_15 ?_
  refine lv_aload_n hx hb dX11_addBytes_18 rfl (lv_at hl 1 rfl) ?_
  refine va_get (D := (dC, dI)) (ci := 11) (v := .ref s0) (C := RX11) (T := TX11) (N := 19) hx hb hq inX11 hown hK hP 0 rfl rfl 0 (by decide) (hq _ qw_449) (fun _ h9 => h9) rfl dX11_addBytes_19 ?_
  refine va_alen (v := 400) hx hb hK hP 1 0 rfl rfl rfl dX11_addBytes_22 ?_
  refine lv_icmp_ge (tgt := 52) hx hb dX11_addBytes_23 (by decide) (fun c9 => absurd c9 (by decide)) (fun _ => ?_)
  refine lv_aload_n hx hb dX11_addBytes_26 rfl (lv_at hl 1 rfl) ?_
  refine va_get (D := (dC, dI)) (ci := 11) (v := .ref s0) (C := RX11) (T := TX11) (N := 19) hx hb hq inX11 hown hK hP 0 rfl rfl 0 (by decide) (hq _ qw_449) (fun _ h9 => h9) rfl dX11_addBytes_27 ?_
  refine lv_aload_n hx hb dX11_addBytes_30 rfl (lv_at hl 1 rfl) ?_
  refine va_get (D := (dC, dI)) (ci := 11) (v := .int 3) (C := RX11) (T := TX11) (N := 19) hx hb hq inX11 hown hK hP 0 rfl rfl 1 (by decide) (hq _ qw_450) (fun _ h9 => h9) rfl dX11_addBytes_31 ?_
  refine lv_iload_n hx hb dX11_addBytes_34 rfl (lv_at hl 2 rfl) ?_
  refine lv_iload_n hx hb dX11_addBytes_35 rfl (lv_at hl 0 rfl) ?_
  refine lv_iushr hx hb dX11_addBytes_36 rfl ?_
  refine lv_topi (fun y_13 ey_13 => ?_)
  refine lv_sipush (v := 255) hx hb dX11_addBytes_37 (by decide) ?_
  refine lv_iand hx hb dX11_addBytes_40 ?_
  refine lv_topi (fun y_14 ey_14 => ?_)
  refine va_iast hx hb hK hP hD hS 1 0 rfl rfl (inr_ok rfl) dX11_addBytes_41 (fun H locs hP hD hS => ?_)
  generalize upd f_11 (Int32.toNatClampNeg 3) y_14 = f_15 at hP hD
  have hP : va_P (dC, dI) classes [(h0, .inr (11, [.ref s0, .int 3, .ref s2, .ref s3, .ref s4, .int 0, .int (-1), .ref s7, .ref s8, .ref s9, .ref s10, .ref s11, .ref s12, .ref s13, .ref s14, .ref s15, .ref s16, .ref s17, .int 0])), (s0, .inl (k0, 400, .inl f_15))] H := hP
  have hD : va_D A [(h0, .inr (11, [.ref s0, .int 3, .ref s2, .ref s3, .ref s4, .int 0, .int (-1), .ref s7, .ref s8, .ref s9, .ref s10, .ref s11, .ref s12, .ref s13, .ref s14, .ref s15, .ref s16, .ref s17, .int 0])), (s0, .inl (k0, 400, .inl f_15))] := hD
  refine lv_aload_n hx hb dX11_addBytes_42 rfl (lv_at hl 1 rfl) ?_
  refine lv_dup hx hb dX11_addBytes_43 rfl ?_
  refine va_get (D := (dC, dI)) (ci := 11) (v := .int 3) (C := RX11) (T := TX11) (N := 19) hx hb hq inX11 hown hK hP 0 rfl rfl 1 (by decide) (hq _ qw_450) (fun _ h9 => h9) rfl dX11_addBytes_44 ?_
  refine lv_iconst (v := 1) hx hb dX11_addBytes_47 (by decide) ?_
  refine lv_iadd hx hb dX11_addBytes_48 ?_
  refine lv_topi (fun y_16 ey_16 => ?_)
  obtain rfl : y_16 = 4 := ey_16.trans (by decide)
  refine va_put (D := (dC, dI)) (ci := 11) (v := .int 4) (ty := .int) (C := RX11) (T := TX11) (N := 19) hx hb hq inX11 tyX11 tyX11_ok nmX11 hown hK hP hD hS 0 rfl rfl 1 (by decide) (hq _ qw_450) (fun _ h9 => h9) rfl (by decide +kernel) rfl rfl (Nat.le_of_ble_eq_true rfl) dX11_addBytes_49 (fun H locs hP hD hS => ?_)
  have hP : va_P (dC, dI) classes [(h0, .inr (11, [.ref s0, .int 4, .ref s2, .ref s3, .ref s4, .int 0, .int (-1), .ref s7, .ref s8, .ref s9, .ref s10, .ref s11, .ref s12, .ref s13, .ref s14, .ref s15, .ref s16, .ref s17, .int 0])), (s0, .inl (k0, 400, .inl f_15))] H := hP
  have hD : va_D A [(h0, .inr (11, [.ref s0, .int 4, .ref s2, .ref s3, .ref s4, .int 0, .int (-1), .ref s7, .ref s8, .ref s9, .ref s10, .ref s11, .ref s12, .ref s13, .ref s14, .ref s15, .ref s16, .ref s17, .int 0])), (s0, .inl (k0, 400, .inl f_15))] := hD
  refine lv_iinc (v := (-8)) (lv' := [(2, .int (-8)), (0, .ref h0), (1, .int x0)]) hx hb dX11_addBytes_52 hl (k := 0) rfl (by decide) (by decide) rfl (fun ls hl => ?_)
  refine lv_goto (tgt := 3) hx hb dX11_addBytes_55 (by decide) ?_
  refine lv_iload_n hx hb dX11_addBytes_3 rfl (lv_at hl 0 rfl) ?_
  refine lv_if_lt (tgt := 58) hx hb dX11_addBytes_4 (by decide) (fun _ => ?_) (fun c9 => absurd c9 (by decide))
  have hP9 := hP.sub (ws' := [(h0, .inr (11, [.ref s0, .int 4, .ref s2, .ref s3, .ref s4, .int 0, .int (-1), .ref s7, .ref s8, .ref s9, .ref s10, .ref s11, .ref s12, .ref s13, .ref s14, .ref s15, .ref s16, .ref s17, .int 0])), (s0, .inl (k0, 400, .inl f_15))]) [0, 1] rfl
  have hD9 := hD.sub (ws' := [(h0, .inr (11, [.ref s0, .int 4, .ref s2, .ref s3, .ref s4, .int 0, .int (-1), .ref s7, .ref s8, .ref s9, .ref s10, .ref s11, .ref s12, .ref s13, .ref s14, .ref s15, .ref s16, .ref s17, .int 0])), (s0, .inl (k0, 400, .inl f_15))]) [0, 1] (by decide) rfl
  have hK9 := hK.sub (tys' := [(k0, .int)]) [0] rfl
  refine W.widen (k := 0) (n := 0) (Nat.le_of_ble_eq_true rfl) (Nat.le_of_ble_eq_true rfl) ?_
  exact W.vret hx hb hr (fun t ht hW => ⟨⟨(), rfl, trivial, f_15, by rw [ht]; exact hP9, va_K.moved hW.alike hK9, hD9⟩, hS.F ht⟩) hS.2.2 dX11_addBytes_58

set_option maxHeartbeats 4000000 in
set_option maxRecDepth 100000 in
/-- c_SB_addBytes_4 -/
theorem c_SB_addBytes_4 (l : Launch) (dC : Nat → ClassId) (dI : Nat → Nat → Nat) (sz : Nat) (h0 : Nat) (s0 : Nat) (s2 : Nat) (s3 : Nat) (s4 : Nat) (s7 : Nat) (s8 : Nat) (s9 : Nat) (s10 : Nat) (s11 : Nat) (s12 : Nat) (s13 : Nat) (s14 : Nat) (s15 : Nat) (s16 : Nat) (s17 : Nat) (k0 : ClassId) (g0 : Nat → Int32) (x0 : Int32) : Met l yX11_addBytes (.code yX11_addBytes cX11_addBytes 3 none :: wsA) ({ frames := 0, cells := 0, slots := 0, locals := 0 }) (va_Pc [.ref h0, .int x0] (fun U => U.heap.size = sz ∧ va_P (dC, dI) classes [(h0, .inr (11, [.ref s0, .int 4, .ref s2, .ref s3, .ref s4, .int 0, .int (-1), .ref s7, .ref s8, .ref s9, .ref s10, .ref s11, .ref s12, .ref s13, .ref s14, .ref s15, .ref s16, .ref s17, .int 0])), (s0, .inl (k0, 400, .inl g0))] U.heap ∧ va_K (dC, dI) classes [(k0, .int)] U ∧ va_D (fun _ => True) [(h0, .inr (11, [.ref s0, .int 4, .ref s2, .ref s3, .ref s4, .int 0, .int (-1), .ref s7, .ref s8, .ref s9, .ref s10, .ref s11, .ref s12, .ref s13, .ref s14, .ref s15, .ref s16, .ref s17, .int 0])), (s0, .inl (k0, 400, .inl g0))] ∧ xE U)) (va_Qv (fun (_ : Unit) => True) (fun _ t => ∃ (o_f_15 : Nat → Int32), va_P (dC, dI) classes [(h0, .inr (11, [.ref s0, .int 8, .ref s2, .ref s3, .ref s4, .int 0, .int (-1), .ref s7, .ref s8, .ref s9, .ref s10, .ref s11, .ref s12, .ref s13, .ref s14, .ref s15, .ref s16, .ref s17, .int 0])), (s0, .inl (k0, 400, .inl o_f_15))] t.heap ∧ va_K (dC, dI) classes [(k0, .int)] t ∧ va_D (va_A [(h0, .inr (11, [.ref s0, .int 4, .ref s2, .ref s3, .ref s4, .int 0, .int (-1), .ref s7, .ref s8, .ref s9, .ref s10, .ref s11, .ref s12, .ref s13, .ref s14, .ref s15, .ref s16, .ref s17, .int 0])), (s0, .inl (k0, 400, .inl g0))] sz) [(h0, .inr (11, [.ref s0, .int 8, .ref s2, .ref s3, .ref s4, .int 0, .int (-1), .ref s7, .ref s8, .ref s9, .ref s10, .ref s11, .ref s12, .ref s13, .ref s14, .ref s15, .ref s16, .ref s17, .int 0])), (s0, .inl (k0, 400, .inl o_f_15))]) (va_A [(h0, .inr (11, [.ref s0, .int 4, .ref s2, .ref s3, .ref s4, .int 0, .int (-1), .ref s7, .ref s8, .ref s9, .ref s10, .ref s11, .ref s12, .ref s13, .ref s14, .ref s15, .ref s16, .ref s17, .int 0])), (s0, .inl (k0, 400, .inl g0))] sz)) 0 0 (va_A [(h0, .inr (11, [.ref s0, .int 4, .ref s2, .ref s3, .ref s4, .int 0, .int (-1), .ref s7, .ref s8, .ref s9, .ref s10, .ref s11, .ref s12, .ref s13, .ref s14, .ref s15, .ref s16, .ref s17, .int 0])), (s0, .inl (k0, 400, .inl g0))] sz) := by
  refine Met.ofW (cc := cX11_addBytes) (maxL := 3) (ret := none) (by decide) rfl ?_
  intro p e s m args below meth c s₁ B hml hv
  obtain ⟨rfl, hsz, hP, hK, hD0, hE⟩ := hv
  have hx := B.exec
  have hb := B.bytes
  have hr := B.returns
  have hts := atoms_spec (ws := .code yX11_addBytes cX11_addBytes 3 none :: wsA) B.pre
  have hq : ∀ w ∈ wsA, w.before _ s = true := fun w h => hts w (List.mem_cons_of_mem _ h)
  have hown : s.vm.findClass RX11 = some m.cls := findClass_of_methodNamed B.named
  have hlocks := B.notSynchronized
  subst hsz
  have hD := hD0.self (sz := s.heap.size)
  generalize hAe : va_A [(h0, .inr (11, [.ref s0, .int 4, .ref s2, .ref s3, .ref s4, .int 0, .int (-1), .ref s7, .ref s8, .ref s9, .ref s10, .ref s11, .ref s12, .ref s13, .ref s14, .ref s15, .ref s16, .ref s17, .int 0])), (s0, .inl (k0, 400, .inl g0))] s.heap.size = A at hD ⊢
  have hA : ∀ q : Nat, s.heap.size ≤ q → A q := fun q h => by rw [← hAe]; exact Or.inr h
  have hS : va_S A s.heap s.heap [] := va_S.rf
  have hl := lv_entry ([.ref h0, .int x0]) (n := 3) (Nat.le_of_ble_eq_true rfl)
  rw [lg_entry_eq]
  generalize (lg_sl ([.ref h0, .int x0]) ++ List.replicate (3 - (lg_sl ([.ref h0, .int x0])).length) Slot.unset).toArray = ls at hl ⊢
  have hl : lv_has ls 3 [(0, .ref h0), (1, .int x0)] := hl
  refine lv_bipush (v := 24) hx hb dX11_addBytes_0 (by decide) ?_
  refine lv_istore_n (lv' := [(2, .int 24), (0, .ref h0), (1, .int x0)]) hx hb dX11_addBytes_2 rfl hl (by decide) rfl (fun ls hl => ?_)
  refine lv_iload_n hx hb dX11_addBytes_3 rfl (lv_at hl 0 rfl) ?_
  refine lv_if_lt (tgt := 58) hx hb dX11_addBytes_4 (by decide) (fun c9 => absurd c9 (by decide)) (fun _ => ?_)
  refine lv_aload_n hx hb dX11_addBytes_7 rfl (lv_at hl 1 rfl) ?_
  refine va_get (D := (dC, dI)) (ci := 11) (v := .int 4) (C := RX11) (T := TX11) (N := 19) hx hb hq inX11 hown hK hP 0 rfl rfl 1 (by decide) (hq _ qw_450) (fun _ h9 => h9) rfl dX11_addBytes_8 ?_
  refine lv_if_lt (tgt := 52) hx hb dX11_addBytes_11 (by decide) (fun c9 => absurd c9 (by decide)) (fun _ => ?_)
  refine lv_aload_n hx hb dX11_addBytes_14 rfl (lv_at hl 1 rfl) ?_
  refine va_get (D := (dC, dI)) (ci := 11) (v := .int 4) (C := RX11) (T := TX11) (N := 19) hx hb hq inX11 hown hK hP 0 rfl rfl 1 (by decide) (hq _ qw_450) (fun _ h9 => h9) rfl dX11_addBytes_15 ?_
  refine lv_aload_n hx hb dX11_addBytes_18 rfl (lv_at hl 1 rfl) ?_
  refine va_get (D := (dC, dI)) (ci := 11) (v := .ref s0) (C := RX11) (T := TX11) (N := 19) hx hb hq inX11 hown hK hP 0 rfl rfl 0 (by decide) (hq _ qw_449) (fun _ h9 => h9) rfl dX11_addBytes_19 ?_
  refine va_alen (v := 400) hx hb hK hP 1 0 rfl rfl rfl dX11_addBytes_22 ?_
  refine lv_icmp_ge (tgt := 52) hx hb dX11_addBytes_23 (by decide) (fun c9 => absurd c9 (by decide)) (fun _ => ?_)
  refine lv_aload_n hx hb dX11_addBytes_26 rfl (lv_at hl 1 rfl) ?_
  refine va_get (D := (dC, dI)) (ci := 11) (v := .ref s0) (C := RX11) (T := TX11) (N := 19) hx hb hq inX11 hown hK hP 0 rfl rfl 0 (by decide) (hq _ qw_449) (fun _ h9 => h9) rfl dX11_addBytes_27 ?_
  refine lv_aload_n hx hb dX11_addBytes_30 rfl (lv_at hl 1 rfl) ?_
  refine va_get (D := (dC, dI)) (ci := 11) (v := .int 4) (C := RX11) (T := TX11) (N := 19) hx hb hq inX11 hown hK hP 0 rfl rfl 1 (by decide) (hq _ qw_450) (fun _ h9 => h9) rfl dX11_addBytes_31 ?_
  refine lv_iload_n hx hb dX11_addBytes_34 rfl (lv_at hl 2 rfl) ?_
  refine lv_iload_n hx hb dX11_addBytes_35 rfl (lv_at hl 0 rfl) ?_
  refine lv_iushr hx hb dX11_addBytes_36 rfl ?_
  refine lv_topi (fun y_1 ey_1 => ?_)
  refine lv_sipush (v := 255) hx hb dX11_addBytes_37 (by decide) ?_
  refine lv_iand hx hb dX11_addBytes_40 ?_
  refine lv_topi (fun y_2 ey_2 => ?_)
  refine va_iast hx hb hK hP hD hS 1 0 rfl rfl (inr_ok rfl) dX11_addBytes_41 (fun H locs hP hD hS => ?_)
  generalize upd g0 (Int32.toNatClampNeg 4) y_2 = f_3 at hP hD
  have hP : va_P (dC, dI) classes [(h0, .inr (11, [.ref s0, .int 4, .ref s2, .ref s3, .ref s4, .int 0, .int (-1), .ref s7, .ref s8, .ref s9, .ref s10, .ref s11, .ref s12, .ref s13, .ref s14, .ref s15, .ref s16, .ref s17, .int 0])), (s0, .inl (k0, 400, .inl f_3))] H := hP
  have hD : va_D A [(h0, .inr (11, [.ref s0, .int 4, .ref s2, .ref s3, .ref s4, .int 0, .int (-1), .ref s7, .ref s8, .ref s9, .ref s10, .ref s11, .ref s12, .ref s13, .ref s14, .ref s15, .ref s16, .ref s17, .int 0])), (s0, .inl (k0, 400, .inl f_3))] := hD
  refine lv_aload_n hx hb dX11_addBytes_42 rfl (lv_at hl 1 rfl) ?_
  refine lv_dup hx hb dX11_addBytes_43 rfl ?_
  refine va_get (D := (dC, dI)) (ci := 11) (v := .int 4) (C := RX11) (T := TX11) (N := 19) hx hb hq inX11 hown hK hP 0 rfl rfl 1 (by decide) (hq _ qw_450) (fun _ h9 => h9) rfl dX11_addBytes_44 ?_
  refine lv_iconst (v := 1) hx hb dX11_addBytes_47 (by decide) ?_
  refine lv_iadd hx hb dX11_addBytes_48 ?_
  refine lv_topi (fun y_4 ey_4 => ?_)
  obtain rfl : y_4 = 5 := ey_4.trans (by decide)
  refine va_put (D := (dC, dI)) (ci := 11) (v := .int 5) (ty := .int) (C := RX11) (T := TX11) (N := 19) hx hb hq inX11 tyX11 tyX11_ok nmX11 hown hK hP hD hS 0 rfl rfl 1 (by decide) (hq _ qw_450) (fun _ h9 => h9) rfl (by decide +kernel) rfl rfl (Nat.le_of_ble_eq_true rfl) dX11_addBytes_49 (fun H locs hP hD hS => ?_)
  have hP : va_P (dC, dI) classes [(h0, .inr (11, [.ref s0, .int 5, .ref s2, .ref s3, .ref s4, .int 0, .int (-1), .ref s7, .ref s8, .ref s9, .ref s10, .ref s11, .ref s12, .ref s13, .ref s14, .ref s15, .ref s16, .ref s17, .int 0])), (s0, .inl (k0, 400, .inl f_3))] H := hP
  have hD : va_D A [(h0, .inr (11, [.ref s0, .int 5, .ref s2, .ref s3, .ref s4, .int 0, .int (-1), .ref s7, .ref s8, .ref s9, .ref s10, .ref s11, .ref s12, .ref s13, .ref s14, .ref s15, .ref s16, .ref s17, .int 0])), (s0, .inl (k0, 400, .inl f_3))] := hD
  refine lv_iinc (v := 16) (lv' := [(2, .int 16), (0, .ref h0), (1, .int x0)]) hx hb dX11_addBytes_52 hl (k := 0) rfl (by decide) (by decide) rfl (fun ls hl => ?_)
  refine lv_goto (tgt := 3) hx hb dX11_addBytes_55 (by decide) ?_
  refine lv_iload_n hx hb dX11_addBytes_3 rfl (lv_at hl 0 rfl) ?_
  refine lv_if_lt (tgt := 58) hx hb dX11_addBytes_4 (by decide) (fun c9 => absurd c9 (by decide)) (fun _ => ?_)
  refine lv_aload_n hx hb dX11_addBytes_7 rfl (lv_at hl 1 rfl) ?_
  refine va_get (D := (dC, dI)) (ci := 11) (v := .int 5) (C := RX11) (T := TX11) (N := 19) hx hb hq inX11 hown hK hP 0 rfl rfl 1 (by decide) (hq _ qw_450) (fun _ h9 => h9) rfl dX11_addBytes_8 ?_
  refine lv_if_lt (tgt := 52) hx hb dX11_addBytes_11 (by decide) (fun c9 => absurd c9 (by decide)) (fun _ => ?_)
  refine lv_aload_n hx hb dX11_addBytes_14 rfl (lv_at hl 1 rfl) ?_
  refine va_get (D := (dC, dI)) (ci := 11) (v := .int 5) (C := RX11) (T := TX11) (N := 19) hx hb hq inX11 hown hK hP 0 rfl rfl 1 (by decide) (hq _ qw_450) (fun _ h9 => h9) rfl dX11_addBytes_15 ?_
  refine lv_aload_n hx hb dX11_addBytes_18 rfl (lv_at hl 1 rfl) ?_
  refine va_get (D := (dC, dI)) (ci := 11) (v := .ref s0) (C := RX11) (T := TX11) (N := 19) hx hb hq inX11 hown hK hP 0 rfl rfl 0 (by decide) (hq _ qw_449) (fun _ h9 => h9) rfl dX11_addBytes_19 ?_
  refine va_alen (v := 400) hx hb hK hP 1 0 rfl rfl rfl dX11_addBytes_22 ?_
  refine lv_icmp_ge (tgt := 52) hx hb dX11_addBytes_23 (by decide) (fun c9 => absurd c9 (by decide)) (fun _ => ?_)
  refine lv_aload_n hx hb dX11_addBytes_26 rfl (lv_at hl 1 rfl) ?_
  refine va_get (D := (dC, dI)) (ci := 11) (v := .ref s0) (C := RX11) (T := TX11) (N := 19) hx hb hq inX11 hown hK hP 0 rfl rfl 0 (by decide) (hq _ qw_449) (fun _ h9 => h9) rfl dX11_addBytes_27 ?_
  refine lv_aload_n hx hb dX11_addBytes_30 rfl (lv_at hl 1 rfl) ?_
  refine va_get (D := (dC, dI)) (ci := 11) (v := .int 5) (C := RX11) (T := TX11) (N := 19) hx hb hq inX11 hown hK hP 0 rfl rfl 1 (by decide) (hq _ qw_450) (fun _ h9 => h9) rfl dX11_addBytes_31 ?_
  refine lv_iload_n hx hb dX11_addBytes_34 rfl (lv_at hl 2 rfl) ?_
  refine lv_iload_n hx hb dX11_addBytes_35 rfl (lv_at hl 0 rfl) ?_
  refine lv_iushr hx hb dX11_addBytes_36 rfl ?_
  refine lv_topi (fun y_5 ey_5 => ?_)
  refine lv_sipush (v := 255) hx hb dX11_addBytes_37 (by decide) ?_
  refine lv_iand hx hb dX11_addBytes_40 ?_
  refine lv_topi (fun y_6 ey_6 => ?_)
  refine va_iast hx hb hK hP hD hS 1 0 rfl rfl (inr_ok rfl) dX11_addBytes_41 (fun H locs hP hD hS => ?_)
  generalize upd f_3 (Int32.toNatClampNeg 5) y_6 = f_7 at hP hD
  have hP : va_P (dC, dI) classes [(h0, .inr (11, [.ref s0, .int 5, .ref s2, .ref s3, .ref s4, .int 0, .int (-1), .ref s7, .ref s8, .ref s9, .ref s10, .ref s11, .ref s12, .ref s13, .ref s14, .ref s15, .ref s16, .ref s17, .int 0])), (s0, .inl (k0, 400, .inl f_7))] H := hP
  have hD : va_D A [(h0, .inr (11, [.ref s0, .int 5, .ref s2, .ref s3, .ref s4, .int 0, .int (-1), .ref s7, .ref s8, .ref s9, .ref s10, .ref s11, .ref s12, .ref s13, .ref s14, .ref s15, .ref s16, .ref s17, .int 0])), (s0, .inl (k0, 400, .inl f_7))] := hD
  refine lv_aload_n hx hb dX11_addBytes_42 rfl (lv_at hl 1 rfl) ?_
  refine lv_dup hx hb dX11_addBytes_43 rfl ?_
  refine va_get (D := (dC, dI)) (ci := 11) (v := .int 5) (C := RX11) (T := TX11) (N := 19) hx hb hq inX11 hown hK hP 0 rfl rfl 1 (by decide) (hq _ qw_450) (fun _ h9 => h9) rfl dX11_addBytes_44 ?_
  refine lv_iconst (v := 1) hx hb dX11_addBytes_47 (by decide) ?_
  refine lv_iadd hx hb dX11_addBytes_48 ?_
  refine lv_topi (fun y_8 ey_8 => ?_)
  obtain rfl : y_8 = 6 := ey_8.trans (by decide)
  refine va_put (D := (dC, dI)) (ci := 11) (v := .int 6) (ty := .int) (C := RX11) (T := TX11) (N := 19) hx hb hq inX11 tyX11 tyX11_ok nmX11 hown hK hP hD hS 0 rfl rfl 1 (by decide) (hq _ qw_450) (fun _ h9 => h9) rfl (by decide +kernel) rfl rfl (Nat.le_of_ble_eq_true rfl) dX11_addBytes_49 (fun H locs hP hD hS => ?_)
  have hP : va_P (dC, dI) classes [(h0, .inr (11, [.ref s0, .int 6, .ref s2, .ref s3, .ref s4, .int 0, .int (-1), .ref s7, .ref s8, .ref s9, .ref s10, .ref s11, .ref s12, .ref s13, .ref s14, .ref s15, .ref s16, .ref s17, .int 0])), (s0, .inl (k0, 400, .inl f_7))] H := hP
  have hD : va_D A [(h0, .inr (11, [.ref s0, .int 6, .ref s2, .ref s3, .ref s4, .int 0, .int (-1), .ref s7, .ref s8, .ref s9, .ref s10, .ref s11, .ref s12, .ref s13, .ref s14, .ref s15, .ref s16, .ref s17, .int 0])), (s0, .inl (k0, 400, .inl f_7))] := hD
  refine lv_iinc (v := 8) (lv' := [(2, .int 8), (0, .ref h0), (1, .int x0)]) hx hb dX11_addBytes_52 hl (k := 0) rfl (by decide) (by decide) rfl (fun ls hl => ?_)
  refine lv_goto (tgt := 3) hx hb dX11_addBytes_55 (by decide) ?_
  refine lv_iload_n hx hb dX11_addBytes_3 rfl (lv_at hl 0 rfl) ?_
  refine lv_if_lt (tgt := 58) hx hb dX11_addBytes_4 (by decide) (fun c9 => absurd c9 (by decide)) (fun _ => ?_)
  refine lv_aload_n hx hb dX11_addBytes_7 rfl (lv_at hl 1 rfl) ?_
  refine va_get (D := (dC, dI)) (ci := 11) (v := .int 6) (C := RX11) (T := TX11) (N := 19) hx hb hq inX11 hown hK hP 0 rfl rfl 1 (by decide) (hq _ qw_450) (fun _ h9 => h9) rfl dX11_addBytes_8 ?_
  refine lv_if_lt (tgt := 52) hx hb dX11_addBytes_11 (by decide) (fun c9 => absurd c9 (by decide)) (fun _ => ?_)
  refine lv_aload_n hx hb dX11_addBytes_14 rfl (lv_at hl 1 rfl) ?_
  refine va_get (D := (dC, dI)) (ci := 11) (v := .int 6) (C := RX11) (T := TX11) (N := 19) hx hb hq inX11 hown hK hP 0 rfl rfl 1 (by decide) (hq _ qw_450) (fun _ h9 => h9) rfl dX11_addBytes_15 ?_
  refine lv_aload_n hx hb dX11_addBytes_18 rfl (lv_at hl 1 rfl) ?_
  refine va_get (D := (dC, dI)) (ci := 11) (v := .ref s0) (C := RX11) (T := TX11) (N := 19) hx hb hq inX11 hown hK hP 0 rfl rfl 0 (by decide) (hq _ qw_449) (fun _ h9 => h9) rfl dX11_addBytes_19 ?_
  refine va_alen (v := 400) hx hb hK hP 1 0 rfl rfl rfl dX11_addBytes_22 ?_
  refine lv_icmp_ge (tgt := 52) hx hb dX11_addBytes_23 (by decide) (fun c9 => absurd c9 (by decide)) (fun _ => ?_)
  refine lv_aload_n hx hb dX11_addBytes_26 rfl (lv_at hl 1 rfl) ?_
  refine va_get (D := (dC, dI)) (ci := 11) (v := .ref s0) (C := RX11) (T := TX11) (N := 19) hx hb hq inX11 hown hK hP 0 rfl rfl 0 (by decide) (hq _ qw_449) (fun _ h9 => h9) rfl dX11_addBytes_27 ?_
  refine lv_aload_n hx hb dX11_addBytes_30 rfl (lv_at hl 1 rfl) ?_
  refine va_get (D := (dC, dI)) (ci := 11) (v := .int 6) (C := RX11) (T := TX11) (N := 19) hx hb hq inX11 hown hK hP 0 rfl rfl 1 (by decide) (hq _ qw_450) (fun _ h9 => h9) rfl dX11_addBytes_31 ?_
  refine lv_iload_n hx hb dX11_addBytes_34 rfl (lv_at hl 2 rfl) ?_
  refine lv_iload_n hx hb dX11_addBytes_35 rfl (lv_at hl 0 rfl) ?_
  refine lv_iushr hx hb dX11_addBytes_36 rfl ?_
  refine lv_topi (fun y_9 ey_9 => ?_)
  refine lv_sipush (v := 255) hx hb dX11_addBytes_37 (by decide) ?_
  refine lv_iand hx hb dX11_addBytes_40 ?_
  refine lv_topi (fun y_10 ey_10 => ?_)
  refine va_iast hx hb hK hP hD hS 1 0 rfl rfl (inr_ok rfl) dX11_addBytes_41 (fun H locs hP hD hS => ?_)
  generalize upd f_7 (Int32.toNatClampNeg 6) y_10 = f_11 at hP hD
  have hP : va_P (dC, dI) classes [(h0, .inr (11, [.ref s0, .int 6, .ref s2, .ref s3, .ref s4, .int 0, .int (-1), .ref s7, .ref s8, .ref s9, .ref s10, .ref s11, .ref s12, .ref s13, .ref s14, .ref s15, .ref s16, .ref s17, .int 0])), (s0, .inl (k0, 400, .inl f_11))] H := hP
  have hD : va_D A [(h0, .inr (11, [.ref s0, .int 6, .ref s2, .ref s3, .ref s4, .int 0, .int (-1), .ref s7, .ref s8, .ref s9, .ref s10, .ref s11, .ref s12, .ref s13, .ref s14, .ref s15, .ref s16, .ref s17, .int 0])), (s0, .inl (k0, 400, .inl f_11))] := hD
  refine lv_aload_n hx hb dX11_addBytes_42 rfl (lv_at hl 1 rfl) ?_
  refine lv_dup hx hb dX11_addBytes_43 rfl ?_
  refine va_get (D := (dC, dI)) (ci := 11) (v := .int 6) (C := RX11) (T := TX11) (N := 19) hx hb hq inX11 hown hK hP 0 rfl rfl 1 (by decide) (hq _ qw_450) (fun _ h9 => h9) rfl dX11_addBytes_44 ?_
  refine lv_iconst (v := 1) hx hb dX11_addBytes_47 (by decide) ?_
  refine lv_iadd hx hb dX11_addBytes_48 ?_
  refine lv_topi (fun y_12 ey_12 => ?_)
  obtain rfl : y_12 = 7 := ey_12.trans (by decide)
  refine va_put (D := (dC, dI)) (ci := 11) (v := .int 7) (ty := .int) (C := RX11) (T := TX11) (N := 19) hx hb hq inX11 tyX11 tyX11_ok nmX11 hown hK hP hD hS 0 rfl rfl 1 (by decide) (hq _ qw_450) (fun _ h9 => h9) rfl (by decide +kernel) rfl rfl (Nat.le_of_ble_eq_true rfl) dX11_addBytes_49 (fun H locs hP hD hS => ?_)
  have hP : va_P (dC, dI) classes [(h0, .inr (11, [.ref s0, .int 7, .ref s2, .ref s3, .ref s4, .int 0, .int (-1), .ref s7, .ref s8, .ref s9, .ref s10, .ref s11, .ref s12, .ref s13, .ref s14, .ref s15, .ref s16, .ref s17, .int 0])), (s0, .inl (k0, 400, .inl f_11))] H := hP
  have hD : va_D A [(h0, .inr (11, [.ref s0, .int 7, .ref s2, .ref s3, .ref s4, .int 0, .int (-1), .ref s7, .ref s8, .ref s9, .ref s10, .ref s11, .ref s12, .ref s13, .ref s14, .ref s15, .ref s16, .ref s17, .int 0])), (s0, .inl (k0, 400, .inl f_11))] := hD
  refine lv_iinc (v := 0) (lv' := [(2, .int 0), (0, .ref h0), (1, .int x0)]) hx hb dX11_addBytes_52 hl (k := 0) rfl (by decide) (by decide) rfl (fun ls hl => ?_)
  refine lv_goto (tgt := 3) hx hb dX11_addBytes_55 (by decide) ?_
  refine lv_iload_n hx hb dX11_addBytes_3 rfl (lv_at hl 0 rfl) ?_
  refine lv_if_lt (tgt := 58) hx hb dX11_addBytes_4 (by decide) (fun c9 => absurd c9 (by decide)) (fun _ => ?_)
  refine lv_aload_n hx hb dX11_addBytes_7 rfl (lv_at hl 1 rfl) ?_
  refine va_get (D := (dC, dI)) (ci := 11) (v := .int 7) (C := RX11) (T := TX11) (N := 19) hx hb hq inX11 hown hK hP 0 rfl rfl 1 (by decide) (hq _ qw_450) (fun _ h9 => h9) rfl dX11_addBytes_8 ?_
  refine lv_if_lt (tgt := 52) hx hb dX11_addBytes_11 (by decide) (fun c9 => absurd c9 (by decide)) (fun _ => ?_)
  refine lv_aload_n hx hb dX11_addBytes_14 rfl (lv_at hl 1 rfl) ?_
  refine va_get (D := (dC, dI)) (ci := 11) (v := .int 7) (C := RX11) (T := TX11) (N := 19) hx hb hq inX11 hown hK hP 0 rfl rfl 1 (by decide) (hq _ qw_450) (fun _ h9 => h9) rfl dX11_addBytes_15 ?_
  refine lv_aload_n hx hb dX11_addBytes_18 rfl (lv_at hl 1 rfl) ?_
  refine va_get (D := (dC, dI)) (ci := 11) (v := .ref s0) (C := RX11) (T := TX11) (N := 19) hx hb hq inX11 hown hK hP 0 rfl rfl 0 (by decide) (hq _ qw_449) (fun _ h9 => h9) rfl dX11_addBytes_19 ?_
  refine va_alen (v := 400) hx hb hK hP 1 0 rfl rfl rfl dX11_addBytes_22 ?_
  refine lv_icmp_ge (tgt := 52) hx hb dX11_addBytes_23 (by decide) (fun c9 => absurd c9 (by decide)) (fun _ => ?_)
  refine lv_aload_n hx hb dX11_addBytes_26 rfl (lv_at hl 1 rfl) ?_
  refine va_get (D := (dC, dI)) (ci := 11) (v := .ref s0) (C := RX11) (T := TX11) (N := 19) hx hb hq inX11 hown hK hP 0 rfl rfl 0 (by decide) (hq _ qw_449) (fun _ h9 => h9) rfl dX11_addBytes_27 ?_
  refine lv_aload_n hx hb dX11_addBytes_30 rfl (lv_at hl 1 rfl) ?_
  refine va_get (D := (dC, dI)) (ci := 11) (v := .int 7) (C := RX11) (T := TX11) (N := 19) hx hb hq inX11 hown hK hP 0 rfl rfl 1 (by decide) (hq _ qw_450) (fun _ h9 => h9) rfl dX11_addBytes_31 ?_
  refine lv_iload_n hx hb dX11_addBytes_34 rfl (lv_at hl 2 rfl) ?_
  refine lv_iload_n hx hb dX11_addBytes_35 rfl (lv_at hl 0 rfl) ?_
  refine lv_iushr hx hb dX11_addBytes_36 rfl ?_
  refine lv_topi (fun y_13 ey_13 => ?_)
  refine lv_sipush (v := 255) hx hb dX11_addBytes_37 (by decide) ?_
  refine lv_iand hx hb dX11_addBytes_40 ?_
  refine lv_topi (fun y_14 ey_14 => ?_)
  refine va_iast hx hb hK hP hD hS 1 0 rfl rfl (inr_ok rfl) dX11_addBytes_41 (fun H locs hP hD hS => ?_)
  generalize upd f_11 (Int32.toNatClampNeg 7) y_14 = f_15 at hP hD
  have hP : va_P (dC, dI) classes [(h0, .inr (11, [.ref s0, .int 7, .ref s2, .ref s3, .ref s4, .int 0, .int (-1), .ref s7, .ref s8, .ref s9, .ref s10, .ref s11, .ref s12, .ref s13, .ref s14, .ref s15, .ref s16, .ref s17, .int 0])), (s0, .inl (k0, 400, .inl f_15))] H := hP
  have hD : va_D A [(h0, .inr (11, [.ref s0, .int 7, .ref s2, .ref s3, .ref s4, .int 0, .int (-1), .ref s7, .ref s8, .ref s9, .ref s10, .ref s11, .ref s12, .ref s13, .ref s14, .ref s15, .ref s16, .ref s17, .int 0])), (s0, .inl (k0, 400, .inl f_15))] := hD
  refine lv_aload_n hx hb dX11_addBytes_42 rfl (lv_at hl 1 rfl) ?_
  refine lv_dup hx hb dX11_addBytes_43 rfl ?_
  refine va_get (D := (dC, dI)) (ci := 11) (v := .int 7) (C := RX11) (T := TX11) (N := 19) hx hb hq inX11 hown hK hP 0 rfl rfl 1 (by decide) (hq _ qw_450) (fun _ h9 => h9) rfl dX11_addBytes_44 ?_
  refine lv_iconst (v := 1) hx hb dX11_addBytes_47 (by decide) ?_
  refine lv_iadd hx hb dX11_addBytes_48 ?_
  refine lv_topi (fun y_16 ey_16 => ?_)
  obtain rfl : y_16 = 8 := ey_16.trans (by decide)
  refine va_put (D := (dC, dI)) (ci := 11) (v := .int 8) (ty := .int) (C := RX11) (T := TX11) (N := 19) hx hb hq inX11 tyX11 tyX11_ok nmX11 hown hK hP hD hS 0 rfl rfl 1 (by decide) (hq _ qw_450) (fun _ h9 => h9) rfl (by decide +kernel) rfl rfl (Nat.le_of_ble_eq_true rfl) dX11_addBytes_49 (fun H locs hP hD hS => ?_)
  have hP : va_P (dC, dI) classes [(h0, .inr (11, [.ref s0, .int 8, .ref s2, .ref s3, .ref s4, .int 0, .int (-1), .ref s7, .ref s8, .ref s9, .ref s10, .ref s11, .ref s12, .ref s13, .ref s14, .ref s15, .ref s16, .ref s17, .int 0])), (s0, .inl (k0, 400, .inl f_15))] H := hP
  have hD : va_D A [(h0, .inr (11, [.ref s0, .int 8, .ref s2, .ref s3, .ref s4, .int 0, .int (-1), .ref s7, .ref s8, .ref s9, .ref s10, .ref s11, .ref s12, .ref s13, .ref s14, .ref s15, .ref s16, .ref s17, .int 0])), (s0, .inl (k0, 400, .inl f_15))] := hD
  refine lv_iinc (v := (-8)) (lv' := [(2, .int (-8)), (0, .ref h0), (1, .int x0)]) hx hb dX11_addBytes_52 hl (k := 0) rfl (by decide) (by decide) rfl (fun ls hl => ?_)
  refine lv_goto (tgt := 3) hx hb dX11_addBytes_55 (by decide) ?_
  refine lv_iload_n hx hb dX11_addBytes_3 rfl (lv_at hl 0 rfl) ?_
  refine lv_if_lt (tgt := 58) hx hb dX11_addBytes_4 (by decide) (fun _ => ?_) (fun c9 => absurd c9 (by decide))
  have hP9 := hP.sub (ws' := [(h0, .inr (11, [.ref s0, .int 8, .ref s2, .ref s3, .ref s4, .int 0, .int (-1), .ref s7, .ref s8, .ref s9, .ref s10, .ref s11, .ref s12, .ref s13, .ref s14, .ref s15, .ref s16, .ref s17, .int 0])), (s0, .inl (k0, 400, .inl f_15))]) [0, 1] rfl
  have hD9 := hD.sub (ws' := [(h0, .inr (11, [.ref s0, .int 8, .ref s2, .ref s3, .ref s4, .int 0, .int (-1), .ref s7, .ref s8, .ref s9, .ref s10, .ref s11, .ref s12, .ref s13, .ref s14, .ref s15, .ref s16, .ref s17, .int 0])), (s0, .inl (k0, 400, .inl f_15))]) [0, 1] (by decide) rfl
  have hK9 := hK.sub (tys' := [(k0, .int)]) [0] rfl
  refine W.widen (k := 0) (n := 0) (Nat.le_of_ble_eq_true rfl) (Nat.le_of_ble_eq_true rfl) ?_
  exact W.vret hx hb hr (fun t ht hW => ⟨⟨(), rfl, trivial, f_15, by rw [ht]; exact hP9, va_K.moved hW.alike hK9, hD9⟩, hS.F ht⟩) hS.2.2 dX11_addBytes_58

set_option maxHeartbeats 4000000 in
set_option maxRecDepth 100000 in
/-- c_SB_addBytes_8 -/
theorem c_SB_addBytes_8 (l : Launch) (dC : Nat → ClassId) (dI : Nat → Nat → Nat) (sz : Nat) (h0 : Nat) (s0 : Nat) (s2 : Nat) (s3 : Nat) (s4 : Nat) (s7 : Nat) (s8 : Nat) (s9 : Nat) (s10 : Nat) (s11 : Nat) (s12 : Nat) (s13 : Nat) (s14 : Nat) (s15 : Nat) (s16 : Nat) (s17 : Nat) (k0 : ClassId) (g0 : Nat → Int32) (x0 : Int32) : Met l yX11_addBytes (.code yX11_addBytes cX11_addBytes 3 none :: wsA) ({ frames := 0, cells := 0, slots := 0, locals := 0 }) (va_Pc [.ref h0, .int x0] (fun U => U.heap.size = sz ∧ va_P (dC, dI) classes [(h0, .inr (11, [.ref s0, .int 8, .ref s2, .ref s3, .ref s4, .int 0, .int (-1), .ref s7, .ref s8, .ref s9, .ref s10, .ref s11, .ref s12, .ref s13, .ref s14, .ref s15, .ref s16, .ref s17, .int 0])), (s0, .inl (k0, 400, .inl g0))] U.heap ∧ va_K (dC, dI) classes [(k0, .int)] U ∧ va_D (fun _ => True) [(h0, .inr (11, [.ref s0, .int 8, .ref s2, .ref s3, .ref s4, .int 0, .int (-1), .ref s7, .ref s8, .ref s9, .ref s10, .ref s11, .ref s12, .ref s13, .ref s14, .ref s15, .ref s16, .ref s17, .int 0])), (s0, .inl (k0, 400, .inl g0))] ∧ xE U)) (va_Qv (fun (_ : Unit) => True) (fun _ t => ∃ (o_f_15 : Nat → Int32), va_P (dC, dI) classes [(h0, .inr (11, [.ref s0, .int 12, .ref s2, .ref s3, .ref s4, .int 0, .int (-1), .ref s7, .ref s8, .ref s9, .ref s10, .ref s11, .ref s12, .ref s13, .ref s14, .ref s15, .ref s16, .ref s17, .int 0])), (s0, .inl (k0, 400, .inl o_f_15))] t.heap ∧ va_K (dC, dI) classes [(k0, .int)] t ∧ va_D (va_A [(h0, .inr (11, [.ref s0, .int 8, .ref s2, .ref s3, .ref s4, .int 0, .int (-1), .ref s7, .ref s8, .ref s9, .ref s10, .ref s11, .ref s12, .ref s13, .ref s14, .ref s15, .ref s16, .ref s17, .int 0])), (s0, .inl (k0, 400, .inl g0))] sz) [(h0, .inr (11, [.ref s0, .int 12, .ref s2, .ref s3, .ref s4, .int 0, .int (-1), .ref s7, .ref s8, .ref s9, .ref s10, .ref s11, .ref s12, .ref s13, .ref s14, .ref s15, .ref s16, .ref s17, .int 0])), (s0, .inl (k0, 400, .inl o_f_15))]) (va_A [(h0, .inr (11, [.ref s0, .int 8, .ref s2, .ref s3, .ref s4, .int 0, .int (-1), .ref s7, .ref s8, .ref s9, .ref s10, .ref s11, .ref s12, .ref s13, .ref s14, .ref s15, .ref s16, .ref s17, .int 0])), (s0, .inl (k0, 400, .inl g0))] sz)) 0 0 (va_A [(h0, .inr (11, [.ref s0, .int 8, .ref s2, .ref s3, .ref s4, .int 0, .int (-1), .ref s7, .ref s8, .ref s9, .ref s10, .ref s11, .ref s12, .ref s13, .ref s14, .ref s15, .ref s16, .ref s17, .int 0])), (s0, .inl (k0, 400, .inl g0))] sz) := by
  refine Met.ofW (cc := cX11_addBytes) (maxL := 3) (ret := none) (by decide) rfl ?_
  intro p e s m args below meth c s₁ B hml hv
  obtain ⟨rfl, hsz, hP, hK, hD0, hE⟩ := hv
  have hx := B.exec
  have hb := B.bytes
  have hr := B.returns
  have hts := atoms_spec (ws := .code yX11_addBytes cX11_addBytes 3 none :: wsA) B.pre
  have hq : ∀ w ∈ wsA, w.before _ s = true := fun w h => hts w (List.mem_cons_of_mem _ h)
  have hown : s.vm.findClass RX11 = some m.cls := findClass_of_methodNamed B.named
  have hlocks := B.notSynchronized
  subst hsz
  have hD := hD0.self (sz := s.heap.size)
  generalize hAe : va_A [(h0, .inr (11, [.ref s0, .int 8, .ref s2, .ref s3, .ref s4, .int 0, .int (-1), .ref s7, .ref s8, .ref s9, .ref s10, .ref s11, .ref s12, .ref s13, .ref s14, .ref s15, .ref s16, .ref s17, .int 0])), (s0, .inl (k0, 400, .inl g0))] s.heap.size = A at hD ⊢
  have hA : ∀ q : Nat, s.heap.size ≤ q → A q := fun q h => by rw [← hAe]; exact Or.inr h
  have hS : va_S A s.heap s.heap [] := va_S.rf
  have hl := lv_entry ([.ref h0, .int x0]) (n := 3) (Nat.le_of_ble_eq_true rfl)
  rw [lg_entry_eq]
  generalize (lg_sl ([.ref h0, .int x0]) ++ List.replicate (3 - (lg_sl ([.ref h0, .int x0])).length) Slot.unset).toArray = ls at hl ⊢
  have hl : lv_has ls 3 [(0, .ref h0), (1, .int x0)] := hl
  refine lv_bipush (v := 24) hx hb dX11_addBytes_0 (by decide) ?_
  refine lv_istore_n (lv' := [(2, .int 24), (0, .ref h0), (1, .int x0)]) hx hb dX11_addBytes_2 rfl hl (by decide) rfl (fun ls hl => ?_)
  refine lv_iload_n hx hb dX11_addBytes_3 rfl (lv_at hl 0 rfl) ?_
  refine lv_if_lt (tgt := 58) hx hb dX11_addBytes_4 (by decide) (fun c9 => absurd c9 (by decide)) (fun _ => ?_)
  refine lv_aload_n hx hb dX11_addBytes_7 rfl (lv_at hl 1 rfl) ?_
  refine va_get (D := (dC, dI)) (ci := 11) (v := .int 8) (C := RX11) (T := TX11) (N := 19) hx hb hq inX11 hown hK hP 0 rfl rfl 1 (by decide) (hq _ qw_450) (fun _ h9 => h9) rfl dX11_addBytes_8 ?_
  refine lv_if_lt (tgt := 52) hx hb dX11_addBytes_11 (by decide) (fun c9 => absurd c9 (by decide)) (fun _ => ?_)
  refine lv_aload_n hx hb dX11_addBytes_14 rfl (lv_at hl 1 rfl) ?_
  refine va_get (D := (dC, dI)) (ci := 11) (v := .int 8) (C := RX11) (T := TX11) (N := 19) hx hb hq inX11 hown hK hP 0 rfl rfl 1 (by decide) (hq _ qw_450) (fun _ h9 => h9) rfl dX11_addBytes_15 ?_
  refine lv_aload_n hx hb dX11_addBytes_18 rfl (lv_at hl 1 rfl) ?_
  refine va_get (D := (dC, dI)) (ci := 11) (v := .ref s0) (C := RX11) (T := TX11) (N := 19) hx hb hq inX11 hown hK hP 0 rfl rfl 0 (by decide) (hq _ qw_449) (fun _ h9 => h9) rfl dX11_addBytes_19 ?_
  refine va_alen (v := 400) hx hb hK hP 1 0 rfl rfl rfl dX11_addBytes_22 ?_
  refine lv_icmp_ge (tgt := 52) hx hb dX11_addBytes_23 (by decide) (fun c9 => absurd c9 (by decide)) (fun _ => ?_)
  refine lv_aload_n hx hb dX11_addBytes_26 rfl (lv_at hl 1 rfl) ?_
  refine va_get (D := (dC, dI)) (ci := 11) (v := .ref s0) (C := RX11) (T := TX11) (N := 19) hx hb hq inX11 hown hK hP 0 rfl rfl 0 (by decide) (hq _ qw_449) (fun _ h9 => h9) rfl dX11_addBytes_27 ?_
  refine lv_aload_n hx hb dX11_addBytes_30 rfl (lv_at hl 1 rfl) ?_
  refine va_get (D := (dC, dI)) (ci := 11) (v := .int 8) (C := RX11) (T := TX11) (N := 19) hx hb hq inX11 hown hK hP 0 rfl rfl 1 (by decide) (hq _ qw_450) (fun _ h9 => h9) rfl dX11_addBytes_31 ?_
  refine lv_iload_n hx hb dX11_addBytes_34 rfl (lv_at hl 2 rfl) ?_
  refine lv_iload_n hx hb dX11_addBytes_35 rfl (lv_at hl 0 rfl) ?_
  refine lv_iushr hx hb dX11_addBytes_36 rfl ?_
  refine lv_topi (fun y_1 ey_1 => ?_)
  refine lv_sipush (v := 255) hx hb dX11_addBytes_37 (by decide) ?_
  refine lv_iand hx hb dX11_addBytes_40 ?_
  refine lv_topi (fun y_2 ey_2 => ?_)
  refine va_iast hx hb hK hP hD hS 1 0 rfl rfl (inr_ok rfl) dX11_addBytes_41 (fun H locs hP hD hS => ?_)
  generalize upd g0 (Int32.toNatClampNeg 8) y_2 = f_3 at hP hD
  have hP : va_P (dC, dI) classes [(h0, .inr (11, [.ref s0, .int 8, .ref s2, .ref s3, .ref s4, .int 0, .int (-1), .ref s7, .ref s8, .ref s9, .ref s10, .ref s11, .ref s12, .ref s13, .ref s14, .ref s15, .ref s16, .ref s17, .int 0])), (s0, .inl (k0, 400, .inl f_3))] H := hP
  have hD : va_D A [(h0, .inr (11, [.ref s0, .int 8, .ref s2, .ref s3, .ref s4, .int 0, .int (-1), .ref s7, .ref s8, .ref s9, .ref s10, .ref s11, .ref s12, .ref s13, .ref s14, .ref s15, .ref s16, .ref s17, .int 0])), (s0, .inl (k0, 400, .inl f_3))] := hD
  refine lv_aload_n hx hb dX11_addBytes_42 rfl (lv_at hl 1 rfl) ?_
  refine lv_dup hx hb dX11_addBytes_43 rfl ?_
  refine va_get (D := (dC, dI)) (ci := 11) (v := .int 8) (C := RX11) (T := TX11) (N := 19) hx hb hq inX11 hown hK hP 0 rfl rfl 1 (by decide) (hq _ qw_450) (fun _ h9 => h9) rfl dX11_addBytes_44 ?_
  refine lv_iconst (v := 1) hx hb dX11_addBytes_47 (by decide) ?_
  refine lv_iadd hx hb dX11_addBytes_48 ?_
  refine lv_topi (fun y_4 ey_4 => ?_)
  obtain rfl : y_4 = 9 := ey_4.trans (by decide)
  refine va_put (D := (dC, dI)) (ci := 11) (v := .int 9) (ty := .int) (C := RX11) (T := TX11) (N := 19) hx hb hq inX11 tyX11 tyX11_ok nmX11 hown hK hP hD hS 0 rfl rfl 1 (by decide) (hq _ qw_450) (fun _ h9 => h9) rfl (by decide +kernel) rfl rfl (Nat.le_of_ble_eq_true rfl) dX11_addBytes_49 (fun H locs hP hD hS => ?_)
  have hP : va_P (dC, dI) classes [(h0, .inr (11, [.ref s0, .int 9, .ref s2, .ref s3, .ref s4, .int 0, .int (-1), .ref s7, .ref s8, .ref s9, .ref s10, .ref s11, .ref s12, .ref s13, .ref s14, .ref s15, .ref s16, .ref s17, .int 0])), (s0, .inl (k0, 400, .inl f_3))] H := hP
  have hD : va_D A [(h0, .inr (11, [.ref s0, .int 9, .ref s2, .ref s3, .ref s4, .int 0, .int (-1), .ref s7, .ref s8, .ref s9, .ref s10, .ref s11, .ref s12, .ref s13, .ref s14, .ref s15, .ref s16, .ref s17, .int 0])), (s0, .inl (k0, 400, .inl f_3))] := hD
  refine lv_iinc (v := 16) (lv' := [(2, .int 16), (0, .ref h0), (1, .int x0)]) hx hb dX11_addBytes_52 hl (k := 0) rfl (by decide) (by decide) rfl (fun ls hl => ?_)
  refine lv_goto (tgt := 3) hx hb dX11_addBytes_55 (by decide) ?_
  refine lv_iload_n hx hb dX11_addBytes_3 rfl (lv_at hl 0 rfl) ?_
  refine lv_if_lt (tgt := 58) hx hb dX11_addBytes_4 (by decide) (fun c9 => absurd c9 (by decide)) (fun _ => ?_)
  refine lv_aload_n hx hb dX11_addBytes_7 rfl (lv_at hl 1 rfl) ?_
  refine va_get (D := (dC, dI)) (ci := 11) (v := .int 9) (C := RX11) (T := TX11) (N := 19) hx hb hq inX11 hown hK hP 0 rfl rfl 1 (by decide) (hq _ qw_450) (fun _ h9 => h9) rfl dX11_addBytes_8 ?_
  refine lv_if_lt (tgt := 52) hx hb dX11_addBytes_11 (by decide) (fun c9 => absurd c9 (by decide)) (fun _ => ?_)
  refine lv_aload_n hx hb dX11_addBytes_14 rfl (lv_at hl 1 rfl) ?_
  refine va_get (D := (dC, dI)) (ci := 11) (v := .int 9) (C := RX11) (T := TX11) (N := 19) hx hb hq inX11 hown hK hP 0 rfl rfl 1 (by decide) (hq _ qw_450) (fun _ h9 => h9) rfl dX11_addBytes_15 ?_
  refine lv_aload_n hx hb dX11_addBytes_18 rfl (lv_at hl 1 rfl) ?_
  refine va_get (D := (dC, dI)) (ci := 11) (v := .ref s0) (C := RX11) (T := TX11) (N := 19) hx hb hq inX11 hown hK hP 0 rfl rfl 0 (by decide) (hq _ qw_449) (fun _ h9 => h9) rfl dX11_addBytes_19 ?_
  refine va_alen (v := 400) hx hb hK hP 1 0 rfl rfl rfl dX11_addBytes_22 ?_
  refine lv_icmp_ge (tgt := 52) hx hb dX11_addBytes_23 (by decide) (fun c9 => absurd c9 (by decide)) (fun _ => ?_)
  refine lv_aload_n hx hb dX11_addBytes_26 rfl (lv_at hl 1 rfl) ?_
  refine va_get (D := (dC, dI)) (ci := 11) (v := .ref s0) (C := RX11) (T := TX11) (N := 19) hx hb hq inX11 hown hK hP 0 rfl rfl 0 (by decide) (hq _ qw_449) (fun _ h9 => h9) rfl dX11_addBytes_27 ?_
  refine lv_aload_n hx hb dX11_addBytes_30 rfl (lv_at hl 1 rfl) ?_
  refine va_get (D := (dC, dI)) (ci := 11) (v := .int 9) (C := RX11) (T := TX11) (N := 19) hx hb hq inX11 hown hK hP 0 rfl rfl 1 (by decide) (hq _ qw_450) (fun _ h9 => h9) rfl dX11_addBytes_31 ?_
  refine lv_iload_n hx hb dX11_addBytes_34 rfl (lv_at hl 2 rfl) ?_
  refine lv_iload_n hx hb dX11_addBytes_35 rfl (lv_at hl 0 rfl) ?_
  refine lv_iushr hx hb dX11_addBytes_36 rfl ?_
  refine lv_topi (fun y_5 ey_5 => ?_)
  refine lv_sipush (v := 255) hx hb dX11_addBytes_37 (by decide) ?_
  refine lv_iand hx hb dX11_addBytes_40 ?_
  refine lv_topi (fun y_6 ey_6 => ?_)
  refine va_iast hx hb hK hP hD hS 1 0 rfl rfl (inr_ok rfl) dX11_addBytes_41 (fun H locs hP hD hS => ?_)
  generalize upd f_3 (Int32.toNatClampNeg 9) y_6 = f_7 at hP hD
  have hP : va_P (dC, dI) classes [(h0, .inr (11, [.ref s0, .int 9, .ref s2, .ref s3, .ref s4, .int 0, .int (-1), .ref s7, .ref s8, .ref s9, .ref s10, .ref s11, .ref s12, .ref s13, .ref s14, .ref s15, .ref s16, .ref s17, .int 0])), (s0, .inl (k0, 400, .inl f_7))] H := hP
  have hD : va_D A [(h0, .inr (11, [.ref s0, .int 9, .ref s2, .ref s3, .ref s4, .int 0, .int (-1), .ref s7, .ref s8, .ref s9, .ref s10, .ref s11, .ref s12, .ref s13, .ref s14, .ref s15, .ref s16, .ref s17, .int 0])), (s0, .inl (k0, 400, .inl f_7))] := hD
  refine lv_aload_n hx hb dX11_addBytes_42 rfl (lv_at hl 1 rfl) ?_
  refine lv_dup hx hb dX11_addBytes_43 rfl ?_
  refine va_get (D := (dC, dI)) (ci := 11) (v := .int 9) (C := RX11) (T := TX11) (N := 19) hx hb hq inX11 hown hK hP 0 rfl rfl 1 (by decide) (hq _ qw_450) (fun _ h9 => h9) rfl dX11_addBytes_44 ?_
  refine lv_iconst (v := 1) hx hb dX11_addBytes_47 (by decide) ?_
  refine lv_iadd hx hb dX11_addBytes_48 ?_
  refine lv_topi (fun y_8 ey_8 => ?_)
  obtain rfl : y_8 = 10 := ey_8.trans (by decide)
  refine va_put (D := (dC, dI)) (ci := 11) (v := .int 10) (ty := .int) (C := RX11) (T := TX11) (N := 19) hx hb hq inX11 tyX11 tyX11_ok nmX11 hown hK hP hD hS 0 rfl rfl 1 (by decide) (hq _ qw_450) (fun _ h9 => h9) rfl (by decide +kernel) rfl rfl (Nat.le_of_ble_eq_true rfl) dX11_addBytes_49 (fun H locs hP hD hS => ?_)
  have hP : va_P (dC, dI) classes [(h0, .inr (11, [.ref s0, .int 10, .ref s2, .ref s3, .ref s4, .int 0, .int (-1), .ref s7, .ref s8, .ref s9, .ref s10, .ref s11, .ref s12, .ref s13, .ref s14, .ref s15, .ref s16, .ref s17, .int 0])), (s0, .inl (k0, 400, .inl f_7))] H := hP
  have hD : va_D A [(h0, .inr (11, [.ref s0, .int 10, .ref s2, .ref s3, .ref s4, .int 0, .int (-1), .ref s7, .ref s8, .ref s9, .ref s10, .ref s11, .ref s12, .ref s13, .ref s14, .ref s15, .ref s16, .ref s17, .int 0])), (s0, .inl (k0, 400, .inl f_7))] := hD
  refine lv_iinc (v := 8) (lv' := [(2, .int 8), (0, .ref h0), (1, .int x0)]) hx hb dX11_addBytes_52 hl (k := 0) rfl (by decide) (by decide) rfl (fun ls hl => ?_)
  refine lv_goto (tgt := 3) hx hb dX11_addBytes_55 (by decide) ?_
  refine lv_iload_n hx hb dX11_addBytes_3 rfl (lv_at hl 0 rfl) ?_
  refine lv_if_lt (tgt := 58) hx hb dX11_addBytes_4 (by decide) (fun c9 => absurd c9 (by decide)) (fun _ => ?_)
  refine lv_aload_n hx hb dX11_addBytes_7 rfl (lv_at hl 1 rfl) ?_
  refine va_get (D := (dC, dI)) (ci := 11) (v := .int 10) (C := RX11) (T := TX11) (N := 19) hx hb hq inX11 hown hK hP 0 rfl rfl 1 (by decide) (hq _ qw_450) (fun _ h9 => h9) rfl dX11_addBytes_8 ?_
  refine lv_if_lt (tgt := 52) hx hb dX11_addBytes_11 (by decide) (fun c9 => absurd c9 (by decide)) (fun _ => ?_)
  refine lv_aload_n hx hb dX11_addBytes_14 rfl (lv_at hl 1 rfl) ?_
  refine va_get (D := (dC, dI)) (ci := 11) (v := .int 10) (C := RX11) (T := TX11) (N := 19) hx hb hq inX11 hown hK hP 0 rfl rfl 1 (by decide) (hq _ qw_450) (fun _ h9 => h9) rfl dX11_addBytes_15 ?_
  refine lv_aload_n hx hb dX11_addBytes_18 rfl (lv_at hl 1 rfl) ?_
  refine va_get (D := (dC, dI)) (ci := 11) (v := .ref s0) (C := RX11) (T := TX11) (N := 19) hx hb hq inX11 hown hK hP 0 rfl rfl 0 (by decide) (hq _ qw_449) (fun _ h9 => h9) rfl dX11_addBytes_19 ?_
  refine va_alen (v := 400) hx hb hK hP 1 0 rfl rfl rfl dX11_addBytes_22 ?_
  refine lv_icmp_ge (tgt := 52) hx hb dX11_addBytes_23 (by decide) (fun c9 => absurd c9 (by decide)) (fun _ => ?_)
  refine lv_aload_n hx hb dX11_addBytes_26 rfl (lv_at hl 1 rfl) ?_
  refine va_get (D := (dC, dI)) (ci := 11) (v := .ref s0) (C := RX11) (T := TX11) (N := 19) hx hb hq inX11 hown hK hP 0 rfl rfl 0 (by decide) (hq _ qw_449) (fun _ h9 => h9) rfl dX11_addBytes_27 ?_
  refine lv_aload_n hx hb dX11_addBytes_30 rfl (lv_at hl 1 rfl) ?_
  refine va_get (D := (dC, dI)) (ci := 11) (v := .int 10) (C := RX11) (T := TX11) (N := 19) hx hb hq inX11 hown hK hP 0 rfl rfl 1 (by decide) (hq _ qw_450) (fun _ h9 => h9) rfl dX11_addBytes_31 ?_
  refine lv_iload_n hx hb dX11_addBytes_34 rfl (lv_at hl 2 rfl) ?_
  refine lv_iload_n hx hb dX11_addBytes_35 rfl (lv_at hl 0 rfl) ?_
  refine lv_iushr hx hb dX11_addBytes_36 rfl ?_
  refine lv_topi (fun y_9 ey_9 => ?_)
  refine lv_sipush (v := 255) hx hb dX11_addBytes_37 (by decide) ?_
  refine lv_iand hx hb dX11_addBytes_40 ?_
  refine lv_topi (fun y_10 ey_10 => ?_)
  refine va_iast hx hb hK hP hD hS 1 0 rfl rfl (inr_ok rfl) dX11_addBytes_41 (fun H locs hP hD hS => ?_)
  generalize upd f_7 (Int32.toNatClampNeg 10) y_10 = f_11 at hP hD
  have hP : va_P (dC, dI) classes [(h0, .inr (11, [.ref s0, .int 10, .ref s2, .ref s3, .ref s4, .int 0, .int (-1), .ref s7, .ref s8, .ref s9, .ref s10, .ref s11, .ref s12, .ref s13, .ref s14, .ref s15, .ref s16, .ref s17, .int 0])), (s0, .inl (k0, 400, .inl f_11))] H := hP
  have hD : va_D A [(h0, .inr (11, [.ref s0, .int 10, .ref s2, .ref s3, .ref s4, .int 0, .int (-1), .ref s7, .ref s8, .ref s9, .ref s10, .ref s11, .ref s12, .ref s13, .ref s14, .ref s15, .ref s16, .ref s17, .int 0])), (s0, .inl (k0, 400, .inl f_11))] := hD
  refine lv_aload_n hx hb dX11_addBytes_42 rfl (lv_at hl 1 rfl) ?_
  refine lv_dup hx hb dX11_addBytes_43 rfl ?_
  refine va_get (D := (dC, dI)) (ci := 11) (v := .int 10) (C := RX11) (T := TX11) (N := 19) hx hb hq inX11 hown hK hP 0 rfl rfl 1 (by decide) (hq _ qw_450) (fun _ h9 => h9) rfl dX11_addBytes_44 ?_
  refine lv_iconst (v := 1) hx hb dX11_addBytes_47 (by decide) ?_
  refine lv_iadd hx hb dX11_addBytes_48 ?_
  refine lv_topi (fun y_12 ey_12 => ?_)
  obtain rfl : y_12 = 11 := ey_12.trans (by decide)
  refine va_put (D := (dC, dI)) (ci := 11) (v := .int 11) (ty := .int) (C := RX11) (T := TX11) (N := 19) hx hb hq inX11 tyX11 tyX11_ok nmX11 hown hK hP hD hS 0 rfl rfl 1 (by decide) (hq _ qw_450) (fun _ h9 => h9) rfl (by decide +kernel) rfl rfl (Nat.le_of_ble_eq_true rfl) dX11_addBytes_49 (fun H locs hP hD hS => ?_)
  have hP : va_P (dC, dI) classes [(h0, .inr (11, [.ref s0, .int 11, .ref s2, .ref s3, .ref s4, .int 0, .int (-1), .ref s7, .ref s8, .ref s9, .ref s10, .ref s11, .ref s12, .ref s13, .ref s14, .ref s15, .ref s16, .ref s17, .int 0])), (s0, .inl (k0, 400, .inl f_11))] H := hP
  have hD : va_D A [(h0, .inr (11, [.ref s0, .int 11, .ref s2, .ref s3, .ref s4, .int 0, .int (-1), .ref s7, .ref s8, .ref s9, .ref s10, .ref s11, .ref s12, .ref s13, .ref s14, .ref s15, .ref s16, .ref s17, .int 0])), (s0, .inl (k0, 400, .inl f_11))] := hD
  refine lv_iinc (v := 0) (lv' := [(2, .int 0), (0, .ref h0), (1, .int x0)]) hx hb dX11_addBytes_52 hl (k := 0) rfl (by decide) (by decide) rfl (fun ls hl => ?_)
  refine lv_goto (tgt := 3) hx hb dX11_addBytes_55 (by decide) ?_
  refine lv_iload_n hx hb dX11_addBytes_3 rfl (lv_at hl 0 rfl) ?_
  refine lv_if_lt (tgt := 58) hx hb dX11_addBytes_4 (by decide) (fun c9 => absurd c9 (by decide)) (fun _ => ?_)
  refine lv_aload_n hx hb dX11_addBytes_7 rfl (lv_at hl 1 rfl) ?_
  refine va_get (D := (dC, dI)) (ci := 11) (v := .int 11) (C := RX11) (T := TX11) (N := 19) hx hb hq inX11 hown hK hP 0 rfl rfl 1 (by decide) (hq _ qw_450) (fun _ h9 => h9) rfl dX11_addBytes_8 ?_
  refine lv_if_lt (tgt := 52) hx hb dX11_addBytes_11 (by decide) (fun c9 => absurd c9 (by decide)) (fun _ => ?_)
  refine lv_aload_n hx hb dX11_addBytes_14 rfl (lv_at hl 1 rfl) ?_
  refine va_get (D := (dC, dI)) (ci := 11) (v := .int 11) (C := RX11) (T := TX11) (N := 19) hx hb hq inX11 hown hK hP 0 rfl rfl 1 (by decide) (hq _ qw_450) (fun _ h9 => h9) rfl dX11_addBytes_15 ?_
  refine lv_aload_n hx hb dX11_addBytes_18 rfl (lv_at hl 1 rfl) ?_
  refine va_get (D := (dC, dI)) (ci := 11) (v := .ref s0) (C := RX11) (T := TX11) (N := 19) hx hb hq inX11 hown hK hP 0 rfl rfl 0 (by decide) (hq _ qw_449) (fun _ h9 => h9) rfl dX11_addBytes_19 ?_
  refine va_alen (v := 400) hx hb hK hP 1 0 rfl rfl rfl dX11_addBytes_22 ?_
  refine lv_icmp_ge (tgt := 52) hx hb dX11_addBytes_23 (by decide) (fun c9 => absurd c9 (by decide)) (fun _ => ?_)
  refine lv_aload_n hx hb dX11_addBytes_26 rfl (lv_at hl 1 rfl) ?_
  refine va_get (D := (dC, dI)) (ci := 11) (v := .ref s0) (C := RX11) (T := TX11) (N := 19) hx hb hq inX11 hown hK hP 0 rfl rfl 0 (by decide) (hq _ qw_449) (fun _ h9 => h9) rfl dX11_addBytes_27 ?_
  refine lv_aload_n hx hb dX11_addBytes_30 rfl (lv_at hl 1 rfl) ?_
  refine va_get (D := (dC, dI)) (ci := 11) (v := .int 11) (C := RX11) (T := TX11) (N := 19) hx hb hq inX11 hown hK hP 0 rfl rfl 1 (by decide) (hq _ qw_450) (fun _ h9 => h9) rfl dX11_addBytes_31 ?_
  refine lv_iload_n hx hb dX11_addBytes_34 rfl (lv_at hl 2 rfl) ?_
  refine lv_iload_n hx hb dX11_addBytes_35 rfl (lv_at hl 0 rfl) ?_
  refine lv_iushr hx hb dX11_addBytes_36 rfl ?_
  refine lv_topi (fun y_13 ey_13 => ?_)
  refine lv_sipush (v := 255) hx hb dX11_addBytes_37 (by decide) ?_
  refine lv_iand hx hb dX11_addBytes_40 ?_
  refine lv_topi (fun y_14 ey_14 => ?_)
  refine va_iast hx hb hK hP hD hS 1 0 rfl rfl (inr_ok rfl) dX11_addBytes_41 (fun H locs hP hD hS => ?_)
  generalize upd f_11 (Int32.toNatClampNeg 11) y_14 = f_15 at hP hD
  have hP : va_P (dC, dI) classes [(h0, .inr (11, [.ref s0, .int 11, .ref s2, .ref s3, .ref s4, .int 0, .int (-1), .ref s7, .ref s8, .ref s9, .ref s10, .ref s11, .ref s12, .ref s13, .ref s14, .ref s15, .ref s16, .ref s17, .int 0])), (s0, .inl (k0, 400, .inl f_15))] H := hP
  have hD : va_D A [(h0, .inr (11, [.ref s0, .int 11, .ref s2, .ref s3, .ref s4, .int 0, .int (-1), .ref s7, .ref s8, .ref s9, .ref s10, .ref s11, .ref s12, .ref s13, .ref s14, .ref s15, .ref s16, .ref s17, .int 0])), (s0, .inl (k0, 400, .inl f_15))] := hD
  refine lv_aload_n hx hb dX11_addBytes_42 rfl (lv_at hl 1 rfl) ?_
  refine lv_dup hx hb dX11_addBytes_43 rfl ?_
  refine va_get (D := (dC, dI)) (ci := 11) (v := .int 11) (C := RX11) (T := TX11) (N := 19) hx hb hq inX11 hown hK hP 0 rfl rfl 1 (by decide) (hq _ qw_450) (fun _ h9 => h9) rfl dX11_addBytes_44 ?_
  refine lv_iconst (v := 1) hx hb dX11_addBytes_47 (by decide) ?_
  refine lv_iadd hx hb dX11_addBytes_48 ?_
  refine lv_topi (fun y_16 ey_16 => ?_)
  obtain rfl : y_16 = 12 := ey_16.trans (by decide)
  refine va_put (D := (dC, dI)) (ci := 11) (v := .int 12) (ty := .int) (C := RX11) (T := TX11) (N := 19) hx hb hq inX11 tyX11 tyX11_ok nmX11 hown hK hP hD hS 0 rfl rfl 1 (by decide) (hq _ qw_450) (fun _ h9 => h9) rfl (by decide +kernel) rfl rfl (Nat.le_of_ble_eq_true rfl) dX11_addBytes_49 (fun H locs hP hD hS => ?_)
  have hP : va_P (dC, dI) classes [(h0, .inr (11, [.ref s0, .int 12, .ref s2, .ref s3, .ref s4, .int 0, .int (-1), .ref s7, .ref s8, .ref s9, .ref s10, .ref s11, .ref s12, .ref s13, .ref s14, .ref s15, .ref s16, .ref s17, .int 0])), (s0, .inl (k0, 400, .inl f_15))] H := hP
  have hD : va_D A [(h0, .inr (11, [.ref s0, .int 12, .ref s2, .ref s3, .ref s4, .int 0, .int (-1), .ref s7, .ref s8, .ref s9, .ref s10, .ref s11, .ref s12, .ref s13, .ref s14, .ref s15, .ref s16, .ref s17, .int 0])), (s0, .inl (k0, 400, .inl f_15))] := hD
  refine lv_iinc (v := (-8)) (lv' := [(2, .int (-8)), (0, .ref h0), (1, .int x0)]) hx hb dX11_addBytes_52 hl (k := 0) rfl (by decide) (by decide) rfl (fun ls hl => ?_)
  refine lv_goto (tgt := 3) hx hb dX11_addBytes_55 (by decide) ?_
  refine lv_iload_n hx hb dX11_addBytes_3 rfl (lv_at hl 0 rfl) ?_
  refine lv_if_lt (tgt := 58) hx hb dX11_addBytes_4 (by decide) (fun _ => ?_) (fun c9 => absurd c9 (by decide))
  have hP9 := hP.sub (ws' := [(h0, .inr (11, [.ref s0, .int 12, .ref s2, .ref s3, .ref s4, .int 0, .int (-1), .ref s7, .ref s8, .ref s9, .ref s10, .ref s11, .ref s12, .ref s13, .ref s14, .ref s15, .ref s16, .ref s17, .int 0])), (s0, .inl (k0, 400, .inl f_15))]) [0, 1] rfl
  have hD9 := hD.sub (ws' := [(h0, .inr (11, [.ref s0, .int 12, .ref s2, .ref s3, .ref s4, .int 0, .int (-1), .ref s7, .ref s8, .ref s9, .ref s10, .ref s11, .ref s12, .ref s13, .ref s14, .ref s15, .ref s16, .ref s17, .int 0])), (s0, .inl (k0, 400, .inl f_15))]) [0, 1] (by decide) rfl
  have hK9 := hK.sub (tys' := [(k0, .int)]) [0] rfl
  refine W.widen (k := 0) (n := 0) (Nat.le_of_ble_eq_true rfl) (Nat.le_of_ble_eq_true rfl) ?_
  exact W.vret hx hb hr (fun t ht hW => ⟨⟨(), rfl, trivial, f_15, by rw [ht]; exact hP9, va_K.moved hW.alike hK9, hD9⟩, hS.F ht⟩) hS.2.2 dX11_addBytes_58

set_option maxHeartbeats 4000000 in
set_option maxRecDepth 100000 in
/-- c_SB_addBytes_12 -/
theorem c_SB_addBytes_12 (l : Launch) (dC : Nat → ClassId) (dI : Nat → Nat → Nat) (sz : Nat) (h0 : Nat) (s0 : Nat) (s2 : Nat) (s3 : Nat) (s4 : Nat) (s7 : Nat) (s8 : Nat) (s9 : Nat) (s10 : Nat) (s11 : Nat) (s12 : Nat) (s13 : Nat) (s14 : Nat) (s15 : Nat) (s16 : Nat) (s17 : Nat) (k0 : ClassId) (g0 : Nat → Int32) (x0 : Int32) : Met l yX11_addBytes (.code yX11_addBytes cX11_addBytes 3 none :: wsA) ({ frames := 0, cells := 0, slots := 0, locals := 0 }) (va_Pc [.ref h0, .int x0] (fun U => U.heap.size = sz ∧ va_P (dC, dI) classes [(h0, .inr (11, [.ref s0, .int 12, .ref s2, .ref s3, .ref s4, .int 0, .int (-1), .ref s7, .ref s8, .ref s9, .ref s10, .ref s11, .ref s12, .ref s13, .ref s14, .ref s15, .ref s16, .ref s17, .int 0])), (s0, .inl (k0, 400, .inl g0))] U.heap ∧ va_K (dC, dI) classes [(k0, .int)] U ∧ va_D (fun _ => True) [(h0, .inr (11, [.ref s0, .int 12, .ref s2, .ref s3, .ref s4, .int 0, .int (-1), .ref s7, .ref s8, .ref s9, .ref s10, .ref s11, .ref s12, .ref s13, .ref s14, .ref s15, .ref s16, .ref s17, .int 0])), (s0, .inl (k0, 400, .inl g0))] ∧ xE U)) (va_Qv (fun (_ : Unit) => True) (fun _ t => ∃ (o_f_15 : Nat → Int32), va_P (dC, dI) classes [(h0, .inr (11, [.ref s0, .int 16, .ref s2, .ref s3, .ref s4, .int 0, .int (-1), .ref s7, .ref s8, .ref s9, .ref s10, .ref s11, .ref s12, .ref s13, .ref s14, .ref s15, .ref s16, .ref s17, .int 0])), (s0, .inl (k0, 400, .inl o_f_15))] t.heap ∧ va_K (dC, dI) classes [(k0, .int)] t ∧ va_D (va_A [(h0, .inr (11, [.ref s0, .int 12, .ref s2, .ref s3, .ref s4, .int 0, .int (-1), .ref s7, .ref s8, .ref s9, .ref s10, .ref s11, .ref s12, .ref s13, .ref s14, .ref s15, .ref s16, .ref s17, .int 0])), (s0, .inl (k0, 400, .inl g0))] sz) [(h0, .inr (11, [.ref s0, .int 16, .ref s2, .ref s3, .ref s4, .int 0, .int (-1), .ref s7, .ref s8, .ref s9, .ref s10, .ref s11, .ref s12, .ref s13, .ref s14, .ref s15, .ref s16, .ref s17, .int 0])), (s0, .inl (k0, 400, .inl o_f_15))]) (va_A [(h0, .inr (11, [.ref s0, .int 12, .ref s2, .ref s3, .ref s4, .int 0, .int (-1), .ref s7, .ref s8, .ref s9, .ref s10, .ref s11, .ref s12, .ref s13, .ref s14, .ref s15, .ref s16, .ref s17, .int 0])), (s0, .inl (k0, 400, .inl g0))] sz)) 0 0 (va_A [(h0, .inr (11, [.ref s0, .int 12, .ref s2, .ref s3, .ref s4, .int 0, .int (-1), .ref s7, .ref s8, .ref s9, .ref s10, .ref s11, .ref s12, .ref s13, .ref s14, .ref s15, .ref s16, .ref s17, .int 0])), (s0, .inl (k0, 400, .inl g0))] sz) := by
  refine Met.ofW (cc := cX11_addBytes) (maxL := 3) (ret := none) (by decide) rfl ?_
  intro p e s m args below meth c s₁ B hml hv
  obtain ⟨rfl, hsz, hP, hK, hD0, hE⟩ := hv
  have hx := B.exec
  have hb := B.bytes
  have hr := B.returns
  have hts := atoms_spec (ws := .code yX11_addBytes cX11_addBytes 3 none :: wsA) B.pre
  have hq : ∀ w ∈ wsA, w.before _ s = true := fun w h => hts w (List.mem_cons_of_mem _ h)
  have hown : s.vm.findClass RX11 = some m.cls := findClass_of_methodNamed B.named
  have hlocks := B.notSynchronized
  subst hsz
  have hD := hD0.self (sz := s.heap.size)
  generalize hAe : va_A [(h0, .inr (11, [.ref s0, .int 12, .ref s2, .ref s3, .ref s4, .int 0, .int (-1), .ref s7, .ref s8, .ref s9, .ref s10, .ref s11, .ref s12, .ref s13, .ref s14, .ref s15, .ref s16, .ref s17, .int 0])), (s0, .inl (k0, 400, .inl g0))] s.heap.size = A at hD ⊢
  have hA : ∀ q : Nat, s.heap.size ≤ q → A q := fun q h => by rw [← hAe]; exact Or.inr h
  have hS : va_S A s.heap s.heap [] := va_S.rf
  have hl := lv_entry ([.ref h0, .int x0]) (n := 3) (Nat.le_of_ble_eq_true rfl)
  rw [lg_entry_eq]
  generalize (lg_sl ([.ref h0, .int x0]) ++ List.replicate (3 - (lg_sl ([.ref h0, .int x0])).length) Slot.unset).toArray = ls at hl ⊢
  have hl : lv_has ls 3 [(0, .ref h0), (1, .int x0)] := hl
  refine lv_bipush (v := 24) hx hb dX11_addBytes_0 (by decide) ?_
  refine lv_istore_n (lv' := [(2, .int 24), (0, .ref h0), (1, .int x0)]) hx hb dX11_addBytes_2 rfl hl (by decide) rfl (fun ls hl => ?_)
  refine lv_iload_n hx hb dX11_addBytes_3 rfl (lv_at hl 0 rfl) ?_
  refine lv_if_lt (tgt := 58) hx hb dX11_addBytes_4 (by decide) (fun c9 => absurd c9 (by decide)) (fun _ => ?_)
  refine lv_aload_n hx hb dX11_addBytes_7 rfl (lv_at hl 1 rfl) ?_
  refine va_get (D := (dC, dI)) (ci := 11) (v := .int 12) (C := RX11) (T := TX11) (N := 19) hx hb hq inX11 hown hK hP 0 rfl rfl 1 (by decide) (hq _ qw_450) (fun _ h9 => h9) rfl dX11_addBytes_8 ?_
  refine lv_if_lt (tgt := 52) hx hb dX11_addBytes_11 (by decide) (fun c9 => absurd c9 (by decide)) (fun _ => ?_)
  refine lv_aload_n hx hb dX11_addBytes_14 rfl (lv_at hl 1 rfl) ?_
  refine va_get (D := (dC, dI)) (ci := 11) (v := .int 12) (C := RX11) (T := TX11) (N := 19) hx hb hq inX11 hown hK hP 0 rfl rfl 1 (by decide) (hq _ qw_450) (fun _ h9 => h9) rfl dX11_addBytes_15 ?_
  refine lv_aload_n hx hb dX11_addBytes_18 rfl (lv_at hl 1 rfl) ?_
  refine va_get (D := (dC, dI)) (ci := 11) (v := .ref s0) (C := RX11) (T := TX11) (N := 19) hx hb hq inX11 hown hK hP 0 rfl rfl 0 (by decide) (hq _ qw_449) (fun _ h9 => h9) rfl dX11_addBytes_19 ?_
  refine va_alen (v := 400) hx hb hK hP 1 0 rfl rfl rfl dX11_addBytes_22 ?_
  refine lv_icmp_ge (tgt := 52) hx hb dX11_addBytes_23 (by decide) (fun c9 => absurd c9 (by decide)) (fun _ => ?_)
  refine lv_aload_n hx hb dX11_addBytes_26 rfl (lv_at hl 1 rfl) ?_
  refine va_get (D := (dC, dI)) (ci := 11) (v := .ref s0) (C := RX11) (T := TX11) (N := 19) hx hb hq inX11 hown hK hP 0 rfl rfl 0 (by decide) (hq _ qw_449) (fun _ h9 => h9) rfl dX11_addBytes_27 ?_
  refine lv_aload_n hx hb dX11_addBytes_30 rfl (lv_at hl 1 rfl) ?_
  refine va_get (D := (dC, dI)) (ci := 11) (v := .int 12) (C := RX11) (T := TX11) (N := 19) hx hb hq inX11 hown hK hP 0 rfl rfl 1 (by decide) (hq _ qw_450) (fun _ h9 => h9) rfl dX11_addBytes_31 ?_
  refine lv_iload_n hx hb dX11_addBytes_34 rfl (lv_at hl 2 rfl) ?_
  refine lv_iload_n hx hb dX11_addBytes_35 rfl (lv_at hl 0 rfl) ?_
  refine lv_iushr hx hb dX11_addBytes_36 rfl ?_
  refine lv_topi (fun y_1 ey_1 => ?_)
  refine lv_sipush (v := 255) hx hb dX11_addBytes_37 (by decide) ?_
  refine lv_iand hx hb dX11_addBytes_40 ?_
  refine lv_topi (fun y_2 ey_2 => ?_)
  refine va_iast hx hb hK hP hD hS 1 0 rfl rfl (inr_ok rfl) dX11_addBytes_41 (fun H locs hP hD hS => ?_)
  generalize upd g0 (Int32.toNatClampNeg 12) y_2 = f_3 at hP hD
  have hP : va_P (dC, dI) classes [(h0, .inr (11, [.ref s0, .int 12, .ref s2, .ref s3, .ref s4, .int 0, .int (-1), .ref s7, .ref s8, .ref s9, .ref s10, .ref s11, .ref s12, .ref s13, .ref s14, .ref s15, .ref s16, .ref s17, .int 0])), (s0, .inl (k0, 400, .inl f_3))] H := hP
  have hD : va_D A [(h0, .inr (11, [.ref s0, .int 12, .ref s2, .ref s3, .ref s4, .int 0, .int (-1), .ref s7, .ref s8, .ref s9, .ref s10, .ref s11, .ref s12, .ref s13, .ref s14, .ref s15, .ref s16, .ref s17, .int 0])), (s0, .inl (k0, 400, .inl f_3))] := hD
  refine lv_aload_n hx hb dX11_addBytes_42 rfl (lv_at hl 1 rfl) ?_
  refine lv_dup hx hb dX11_addBytes_43 rfl ?_
  refine va_get (D := (dC, dI)) (ci := 11) (v := .int 12) (C := RX11) (T := TX11) (N := 19) hx hb hq inX11 hown hK hP 0 rfl rfl 1 (by decide) (hq _ qw_450) (fun _ h9 => h9) rfl dX11_addBytes_44 ?_
  refine lv_iconst (v := 1) hx hb dX11_addBytes_47 (by decide) ?_
  refine lv_iadd hx hb dX11_addBytes_48 ?_
  refine lv_topi (fun y_4 ey_4 => ?_)
  obtain rfl : y_4 = 13 := ey_4.trans (by decide)
  refine va_put (D := (dC, dI)) (ci := 11) (v := .int 13) (ty := .int) (C := RX11) (T := TX11) (N := 19) hx hb hq inX11 tyX11 tyX11_ok nmX11 hown hK hP hD hS 0 rfl rfl 1 (by decide) (hq _ qw_450) (fun _ h9 => h9) rfl (by decide +kernel) rfl rfl (Nat.le_of_ble_eq_true rfl) dX11_addBytes_49 (fun H locs hP hD hS => ?_)
  have hP : va_P (dC, dI) classes [(h0, .inr (11, [.ref s0, .int 13, .ref s2, .ref s3, .ref s4, .int 0, .int (-1), .ref s7, .ref s8, .ref s9, .ref s10, .ref s11, .ref s12, .ref s13, .ref s14, .ref s15, .ref s16, .ref s17, .int 0])), (s0, .inl (k0, 400, .inl f_3))] H := hP
  have hD : va_D A [(h0, .inr (11, [.ref s0, .int 13, .ref s2, .ref s3, .ref s4, .int 0, .int (-1), .ref s7, .ref s8, .ref s9, .ref s10, .ref s11, .ref s12, .ref s13, .ref s14, .ref s15, .ref s16, .ref s17, .int 0])), (s0, .inl (k0, 400, .inl f_3))] := hD
  refine lv_iinc (v := 16) (lv' := [(2, .int 16), (0, .ref h0), (1, .int x0)]) hx hb dX11_addBytes_52 hl (k := 0) rfl (by decide) (by decide) rfl (fun ls hl => ?_)
  refine lv_goto (tgt := 3) hx hb dX11_addBytes_55 (by decide) ?_
  refine lv_iload_n hx hb dX11_addBytes_3 rfl (lv_at hl 0 rfl) ?_
  refine lv_if_lt (tgt := 58) hx hb dX11_addBytes_4 (by decide) (fun c9 => absurd c9 (by decide)) (fun _ => ?_)
  refine lv_aload_n hx hb dX11_addBytes_7 rfl (lv_at hl 1 rfl) ?_
  refine va_get (D := (dC, dI)) (ci := 11) (v := .int 13) (C := RX11) (T := TX11) (N := 19) hx hb hq inX11 hown hK hP 0 rfl rfl 1 (by decide) (hq _ qw_450) (fun _ h9 => h9) rfl dX11_addBytes_8 ?_
  refine lv_if_lt (tgt := 52) hx hb dX11_addBytes_11 (by decide) (fun c9 => absurd c9 (by decide)) (fun _ => ?_)
  refine lv_aload_n hx hb dX11_addBytes_14 rfl (lv_at hl 1 rfl) ?_
  refine va_get (D := (dC, dI)) (ci := 11) (v := .int 13) (C := RX11) (T := TX11) (N := 19) hx hb hq inX11 hown hK hP 0 rfl rfl 1 (by decide) (hq _ qw_450) (fun _ h9 => h9) rfl dX11_addBytes_15 ?_
  refine lv_aload_n hx hb dX11_addBytes_18 rfl (lv_at hl 1 rfl) ?_
  refine va_get (D := (dC, dI)) (ci := 11) (v := .ref s0) (C := RX11) (T := TX11) (N := 19) hx hb hq inX11 hown hK hP 0 rfl rfl 0 (by decide) (hq _ qw_449) (fun _ h9 => h9) rfl dX11_addBytes_19 ?_
  refine va_alen (v := 400) hx hb hK hP 1 0 rfl rfl rfl dX11_addBytes_22 ?_
  refine lv_icmp_ge (tgt := 52) hx hb dX11_addBytes_23 (by decide) (fun c9 => absurd c9 (by decide)) (fun _ => ?_)
  refine lv_aload_n hx hb dX11_addBytes_26 rfl (lv_at hl 1 rfl) ?_
  refine va_get (D := (dC, dI)) (ci := 11) (v := .ref s0) (C := RX11) (T := TX11) (N := 19) hx hb hq inX11 hown hK hP 0 rfl rfl 0 (by decide) (hq _ qw_449) (fun _ h9 => h9) rfl dX11_addBytes_27 ?_
  refine lv_aload_n hx hb dX11_addBytes_30 rfl (lv_at hl 1 rfl) ?_
  refine va_get (D := (dC, dI)) (ci := 11) (v := .int 13) (C := RX11) (T := TX11) (N := 19) hx hb hq inX11 hown hK hP 0 rfl rfl 1 (by decide) (hq _ qw_450) (fun _ h9 => h9) rfl dX11_addBytes_31 ?_
  refine lv_iload_n hx hb dX11_addBytes_34 rfl (lv_at hl 2 rfl) ?_
  refine lv_iload_n hx hb dX11_addBytes_35 rfl (lv_at hl 0 rfl) ?_
  refine lv_iushr hx hb dX11_addBytes_36 rfl ?_
  refine lv_topi (fun y_5 ey_5 => ?_)
  refine lv_sipush (v := 255) hx hb dX11_addBytes_37 (by decide) ?_
  refine lv_iand hx hb dX11_addBytes_40 ?_
  refine lv_topi (fun y_6 ey_6 => ?_)
  refine va_iast hx hb hK hP hD hS 1 0 rfl rfl (inr_ok rfl) dX11_addBytes_41 (fun H locs hP hD hS => ?_)
  generalize upd f_3 (Int32.toNatClampNeg 13) y_6 = f_7 at hP hD
  have hP : va_P (dC, dI) classes [(h0, .inr (11, [.ref s0, .int 13, .ref s2, .ref s3, .ref s4, .int 0, .int (-1), .ref s7, .ref s8, .ref s9, .ref s10, .ref s11, .ref s12, .ref s13, .ref s14, .ref s15, .ref s16, .ref s17, .int 0])), (s0, .inl (k0, 400, .inl f_7))] H := hP
  have hD : va_D A [(h0, .inr (11, [.ref s0, .int 13, .ref s2, .ref s3, .ref s4, .int 0, .int (-1), .ref s7, .ref s8, .ref s9, .ref s10, .ref s11, .ref s12, .ref s13, .ref s14, .ref s15, .ref s16, .ref s17, .int 0])), (s0, .inl (k0, 400, .inl f_7))] := hD
  refine lv_aload_n hx hb dX11_addBytes_42 rfl (lv_at hl 1 rfl) ?_
  refine lv_dup hx hb dX11_addBytes_43 rfl ?_
  refine va_get (D := (dC, dI)) (ci := 11) (v := .int 13) (C := RX11) (T := TX11) (N := 19) hx hb hq inX11 hown hK hP 0 rfl rfl 1 (by decide) (hq _ qw_450) (fun _ h9 => h9) rfl dX11_addBytes_44 ?_
  refine lv_iconst (v := 1) hx hb dX11_addBytes_47 (by decide) ?_
  refine lv_iadd hx hb dX11_addBytes_48 ?_
  refine lv_topi (fun y_8 ey_8 => ?_)
  obtain rfl : y_8 = 14 := ey_8.trans (by decide)
  refine va_put (D := (dC, dI)) (ci := 11) (v := .int 14) (ty := .int) (C := RX11) (T := TX11) (N := 19) hx hb hq inX11 tyX11 tyX11_ok nmX11 hown hK hP hD hS 0 rfl rfl 1 (by decide) (hq _ qw_450) (fun _ h9 => h9) rfl (by decide +kernel) rfl rfl (Nat.le_of_ble_eq_true rfl) dX11_addBytes_49 (fun H locs hP hD hS => ?_)
  have hP : va_P (dC, dI) classes [(h0, .inr (11, [.ref s0, .int 14, .ref s2, .ref s3, .ref s4, .int 0, .int (-1), .ref s7, .ref s8, .ref s9, .ref s10, .ref s11, .ref s12, .ref s13, .ref s14, .ref s15, .ref s16, .ref s17, .int 0])), (s0, .inl (k0, 400, .inl f_7))] H := hP
  have hD : va_D A [(h0, .inr (11, [.ref s0, .int 14, .ref s2, .ref s3, .ref s4, .int 0, .int (-1), .ref s7, .ref s8, .ref s9, .ref s10, .ref s11, .ref s12, .ref s13, .ref s14, .ref s15, .ref s16, .ref s17, .int 0])), (s0, .inl (k0, 400, .inl f_7))] := hD
  refine lv_iinc (v := 8) (lv' := [(2, .int 8), (0, .ref h0), (1, .int x0)]) hx hb dX11_addBytes_52 hl (k := 0) rfl (by decide) (by decide) rfl (fun ls hl => ?_)
  refine lv_goto (tgt := 3) hx hb dX11_addBytes_55 (by decide) ?_
  refine lv_iload_n hx hb dX11_addBytes_3 rfl (lv_at hl 0 rfl) ?_
  refine lv_if_lt (tgt := 58) hx hb dX11_addBytes_4 (by decide) (fun c9 => absurd c9 (by decide)) (fun _ => ?_)
  refine lv_aload_n hx hb dX11_addBytes_7 rfl (lv_at hl 1 rfl) ?_
  refine va_get (D := (dC, dI)) (ci := 11) (v := .int 14) (C := RX11) (T := TX11) (N := 19) hx hb hq inX11 hown hK hP 0 rfl rfl 1 (by decide) (hq _ qw_450) (fun _ h9 => h9) rfl dX11_addBytes_8 ?_
  refine lv_if_lt (tgt := 52) hx hb dX11_addBytes_11 (by decide) (fun c9 => absurd c9 (by decide)) (fun _ => ?_)
  refine lv_aload_n hx hb dX11_addBytes_14 rfl (lv_at hl 1 rfl) ?_
  refine va_get (D := (dC, dI)) (ci := 11) (v := .int 14) (C := RX11) (T := TX11) (N := 19) hx hb hq inX11 hown hK hP 0 rfl rfl 1 (by decide) (hq _ qw_450) (fun _ h9 => h9) rfl dX11_addBytes_15 ?_
  refine lv_aload_n hx hb dX11_addBytes_18 rfl (lv_at hl 1 rfl) ?_
  refine va_get (D := (dC, dI)) (ci := 11) (v := .ref s0) (C := RX11) (T := TX11) (N := 19) hx hb hq inX11 hown hK hP 0 rfl rfl 0 (by decide) (hq _ qw_449) (fun _ h9 => h9) rfl dX11_addBytes_19 ?_
  refine va_alen (v := 400) hx hb hK hP 1 0 rfl rfl rfl dX11_addBytes_22 ?_
  refine lv_icmp_ge (tgt := 52) hx hb dX11_addBytes_23 (by decide) (fun c9 => absurd c9 (by decide)) (fun _ => ?_)
  refine lv_aload_n hx hb dX11_addBytes_26 rfl (lv_at hl 1 rfl) ?_
  refine va_get (D := (dC, dI)) (ci := 11) (v := .ref s0) (C := RX11) (T := TX11) (N := 19) hx hb hq inX11 hown hK hP 0 rfl rfl 0 (by decide) (hq _ qw_449) (fun _ h9 => h9) rfl dX11_addBytes_27 ?_
  refine lv_aload_n hx hb dX11_addBytes_30 rfl (lv_at hl 1 rfl) ?_
  refine va_get (D := (dC, dI)) (ci := 11) (v := .int 14) (C := RX11) (T := TX11) (N := 19) hx hb hq inX11 hown hK hP 0 rfl rfl 1 (by decide) (hq _ qw_450) (fun _ h9 => h9) rfl dX11_addBytes_31 ?_
  refine lv_iload_n hx hb dX11_addBytes_34 rfl (lv_at hl 2 rfl) ?_
  refine lv_iload_n hx hb dX11_addBytes_35 rfl (lv_at hl 0 rfl) ?_
  refine lv_iushr hx hb dX11_addBytes_36 rfl ?_
  refine lv_topi (fun y_9 ey_9 => ?_)
  refine lv_sipush (v := 255) hx hb dX11_addBytes_37 (by decide) ?_
  refine lv_iand hx hb dX11_addBytes_40 ?_
  refine lv_topi (fun y_10 ey_10 => ?_)
  refine va_iast hx hb hK hP hD hS 1 0 rfl rfl (inr_ok rfl) dX11_addBytes_41 (fun H locs hP hD hS => ?_)
  generalize upd f_7 (Int32.toNatClampNeg 14) y_10 = f_11 at hP hD
  have hP : va_P (dC, dI) classes [(h0, .inr (11, [.ref s0, .int 14, .ref s2, .ref s3, .ref s4, .int 0, .int (-1), .ref s7, .ref s8, .ref s9, .ref s10, .ref s11, .ref s12, .ref s13, .ref s14, .ref s15, .ref s16, .ref s17, .int 0])), (s0, .inl (k0, 400, .inl f_11))] H := hP
  have hD : va_D A [(h0, .inr (11, [.ref s0, .int 14, .ref s2, .ref s3, .ref s4, .int 0, .int (-1), .ref s7, .ref s8, .ref s9, .ref s10, .ref s11, .ref s12, .ref s13, .ref s14, .ref s15, .ref s16, .ref s17, .int 0])), (s0, .inl (k0, 400, .inl f_11))] := hD
  refine lv_aload_n hx hb dX11_addBytes_42 rfl (lv_at hl 1 rfl) ?_
  refine lv_dup hx hb dX11_addBytes_43 rfl ?_
  refine va_get (D := (dC, dI)) (ci := 11) (v := .int 14) (C := RX11) (T := TX11) (N := 19) hx hb hq inX11 hown hK hP 0 rfl rfl 1 (by decide) (hq _ qw_450) (fun _ h9 => h9) rfl dX11_addBytes_44 ?_
  refine lv_iconst (v := 1) hx hb dX11_addBytes_47 (by decide) ?_
  refine lv_iadd hx hb dX11_addBytes_48 ?_
  refine lv_topi (fun y_12 ey_12 => ?_)
  obtain rfl : y_12 = 15 := ey_12.trans (by decide)
  refine va_put (D := (dC, dI)) (ci := 11) (v := .int 15) (ty := .int) (C := RX11) (T := TX11) (N := 19) hx hb hq inX11 tyX11 tyX11_ok nmX11 hown hK hP hD hS 0 rfl rfl 1 (by decide) (hq _ qw_450) (fun _ h9 => h9) rfl (by decide +kernel) rfl rfl (Nat.le_of_ble_eq_true rfl) dX11_addBytes_49 (fun H locs hP hD hS => ?_)
  have hP : va_P (dC, dI) classes [(h0, .inr (11, [.ref s0, .int 15, .ref s2, .ref s3, .ref s4, .int 0, .int (-1), .ref s7, .ref s8, .ref s9, .ref s10, .ref s11, .ref s12, .ref s13, .ref s14, .ref s15, .ref s16, .ref s17, .int 0])), (s0, .inl (k0, 400, .inl f_11))] H := hP
  have hD : va_D A [(h0, .inr (11, [.ref s0, .int 15, .ref s2, .ref s3, .ref s4, .int 0, .int (-1), .ref s7, .ref s8, .ref s9, .ref s10, .ref s11, .ref s12, .ref s13, .ref s14, .ref s15, .ref s16, .ref s17, .int 0])), (s0, .inl (k0, 400, .inl f_11))] := hD
  refine lv_iinc (v := 0) (lv' := [(2, .int 0), (0, .ref h0), (1, .int x0)]) hx hb dX11_addBytes_52 hl (k := 0) rfl (by decide) (by decide) rfl (fun ls hl => ?_)
  refine lv_goto (tgt := 3) hx hb dX11_addBytes_55 (by decide) ?_
  refine lv_iload_n hx hb dX11_addBytes_3 rfl (lv_at hl 0 rfl) ?_
  refine lv_if_lt (tgt := 58) hx hb dX11_addBytes_4 (by decide) (fun c9 => absurd c9 (by decide)) (fun _ => ?_)
  refine lv_aload_n hx hb dX11_addBytes_7 rfl (lv_at hl 1 rfl) ?_
  refine va_get (D := (dC, dI)) (ci := 11) (v := .int 15) (C := RX11) (T := TX11) (N := 19) hx hb hq inX11 hown hK hP 0 rfl rfl 1 (by decide) (hq _ qw_450) (fun _ h9 => h9) rfl dX11_addBytes_8 ?_
  refine lv_if_lt (tgt := 52) hx hb dX11_addBytes_11 (by decide) (fun c9 => absurd c9 (by decide)) (fun _ => ?_)
  refine lv_aload_n hx hb dX11_addBytes_14 rfl (lv_at hl 1 rfl) ?_
  refine va_get (D := (dC, dI)) (ci := 11) (v := .int 15) (C := RX11) (T := TX11) (N := 19) hx hb hq inX11 hown hK hP 0 rfl rfl 1 (by decide) (hq _ qw_450) (fun _ h9 => h9) rfl dX11_addBytes_15 ?_
  refine lv_aload_n hx hb dX11_addBytes_18 rfl (lv_at hl 1 rfl) ?_
  refine va_get (D := (dC, dI)) (ci := 11) (v := .ref s0) (C := RX11) (T := TX11) (N := 19) hx hb hq inX11 hown hK hP 0 rfl rfl 0 (by decide) (hq _ qw_449) (fun _ h9 => h9) rfl dX11_addBytes_19 ?_
  refine va_alen (v := 400) hx hb hK hP 1 0 rfl rfl rfl dX11_addBytes_22 ?_
  refine lv_icmp_ge (tgt := 52) hx hb dX11_addBytes_23 (by decide) (fun c9 => absurd c9 (by decide)) (fun _ => ?_)
  refine lv_aload_n hx hb dX11_addBytes_26 rfl (lv_at hl 1 rfl) ?_
  refine va_get (D := (dC, dI)) (ci := 11) (v := .ref s0) (C := RX11) (T := TX11) (N := 19) hx hb hq inX11 hown hK hP 0 rfl rfl 0 (by decide) (hq _ qw_449) (fun _ h9 => h9) rfl dX11_addBytes_27 ?_
  refine lv_aload_n hx hb dX11_addBytes_30 rfl (lv_at hl 1 rfl) ?_
  refine va_get (D := (dC, dI)) (ci := 11) (v := .int 15) (C := RX11) (T := TX11) (N := 19) hx hb hq inX11 hown hK hP 0 rfl rfl 1 (by decide) (hq _ qw_450) (fun _ h9 => h9) rfl dX11_addBytes_31 ?_
  refine lv_iload_n hx hb dX11_addBytes_34 rfl (lv_at hl 2 rfl) ?_
  refine lv_iload_n hx hb dX11_addBytes_35 rfl (lv_at hl 0 rfl) ?_
  refine lv_iushr hx hb dX11_addBytes_36 rfl ?_
  refine lv_topi (fun y_13 ey_13 => ?_)
  refine lv_sipush (v := 255) hx hb dX11_addBytes_37 (by decide) ?_
  refine lv_iand hx hb dX11_addBytes_40 ?_
  refine lv_topi (fun y_14 ey_14 => ?_)
  refine va_iast hx hb hK hP hD hS 1 0 rfl rfl (inr_ok rfl) dX11_addBytes_41 (fun H locs hP hD hS => ?_)
  generalize upd f_11 (Int32.toNatClampNeg 15) y_14 = f_15 at hP hD
  have hP : va_P (dC, dI) classes [(h0, .inr (11, [.ref s0, .int 15, .ref s2, .ref s3, .ref s4, .int 0, .int (-1), .ref s7, .ref s8, .ref s9, .ref s10, .ref s11, .ref s12, .ref s13, .ref s14, .ref s15, .ref s16, .ref s17, .int 0])), (s0, .inl (k0, 400, .inl f_15))] H := hP
  have hD : va_D A [(h0, .inr (11, [.ref s0, .int 15, .ref s2, .ref s3, .ref s4, .int 0, .int (-1), .ref s7, .ref s8, .ref s9, .ref s10, .ref s11, .ref s12, .ref s13, .ref s14, .ref s15, .ref s16, .ref s17, .int 0])), (s0, .inl (k0, 400, .inl f_15))] := hD
  refine lv_aload_n hx hb dX11_addBytes_42 rfl (lv_at hl 1 rfl) ?_
  refine lv_dup hx hb dX11_addBytes_43 rfl ?_
  refine va_get (D := (dC, dI)) (ci := 11) (v := .int 15) (C := RX11) (T := TX11) (N := 19) hx hb hq inX11 hown hK hP 0 rfl rfl 1 (by decide) (hq _ qw_450) (fun _ h9 => h9) rfl dX11_addBytes_44 ?_
  refine lv_iconst (v := 1) hx hb dX11_addBytes_47 (by decide) ?_
  refine lv_iadd hx hb dX11_addBytes_48 ?_
  refine lv_topi (fun y_16 ey_16 => ?_)
  obtain rfl : y_16 = 16 := ey_16.trans (by decide)
  refine va_put (D := (dC, dI)) (ci := 11) (v := .int 16) (ty := .int) (C := RX11) (T := TX11) (N := 19) hx hb hq inX11 tyX11 tyX11_ok nmX11 hown hK hP hD hS 0 rfl rfl 1 (by decide) (hq _ qw_450) (fun _ h9 => h9) rfl (by decide +kernel) rfl rfl (Nat.le_of_ble_eq_true rfl) dX11_addBytes_49 (fun H locs hP hD hS => ?_)
  have hP : va_P (dC, dI) classes [(h0, .inr (11, [.ref s0, .int 16, .ref s2, .ref s3, .ref s4, .int 0, .int (-1), .ref s7, .ref s8, .ref s9, .ref s10, .ref s11, .ref s12, .ref s13, .ref s14, .ref s15, .ref s16, .ref s17, .int 0])), (s0, .inl (k0, 400, .inl f_15))] H := hP
  have hD : va_D A [(h0, .inr (11, [.ref s0, .int 16, .ref s2, .ref s3, .ref s4, .int 0, .int (-1), .ref s7, .ref s8, .ref s9, .ref s10, .ref s11, .ref s12, .ref s13, .ref s14, .ref s15, .ref s16, .ref s17, .int 0])), (s0, .inl (k0, 400, .inl f_15))] := hD
  refine lv_iinc (v := (-8)) (lv' := [(2, .int (-8)), (0, .ref h0), (1, .int x0)]) hx hb dX11_addBytes_52 hl (k := 0) rfl (by decide) (by decide) rfl (fun ls hl => ?_)
  refine lv_goto (tgt := 3) hx hb dX11_addBytes_55 (by decide) ?_
  refine lv_iload_n hx hb dX11_addBytes_3 rfl (lv_at hl 0 rfl) ?_
  refine lv_if_lt (tgt := 58) hx hb dX11_addBytes_4 (by decide) (fun _ => ?_) (fun c9 => absurd c9 (by decide))
  have hP9 := hP.sub (ws' := [(h0, .inr (11, [.ref s0, .int 16, .ref s2, .ref s3, .ref s4, .int 0, .int (-1), .ref s7, .ref s8, .ref s9, .ref s10, .ref s11, .ref s12, .ref s13, .ref s14, .ref s15, .ref s16, .ref s17, .int 0])), (s0, .inl (k0, 400, .inl f_15))]) [0, 1] rfl
  have hD9 := hD.sub (ws' := [(h0, .inr (11, [.ref s0, .int 16, .ref s2, .ref s3, .ref s4, .int 0, .int (-1), .ref s7, .ref s8, .ref s9, .ref s10, .ref s11, .ref s12, .ref s13, .ref s14, .ref s15, .ref s16, .ref s17, .int 0])), (s0, .inl (k0, 400, .inl f_15))]) [0, 1] (by decide) rfl
  have hK9 := hK.sub (tys' := [(k0, .int)]) [0] rfl
  refine W.widen (k := 0) (n := 0) (Nat.le_of_ble_eq_true rfl) (Nat.le_of_ble_eq_true rfl) ?_
  exact W.vret hx hb hr (fun t ht hW => ⟨⟨(), rfl, trivial, f_15, by rw [ht]; exact hP9, va_K.moved hW.alike hK9, hD9⟩, hS.F ht⟩) hS.2.2 dX11_addBytes_58

set_option maxHeartbeats 4000000 in
set_option maxRecDepth 100000 in
/-- c_SB_addBytes_16 -/
theorem c_SB_addBytes_16 (l : Launch) (dC : Nat → ClassId) (dI : Nat → Nat → Nat) (sz : Nat) (h0 : Nat) (s0 : Nat) (s2 : Nat) (s3 : Nat) (s4 : Nat) (s7 : Nat) (s8 : Nat) (s9 : Nat) (s10 : Nat) (s11 : Nat) (s12 : Nat) (s13 : Nat) (s14 : Nat) (s15 : Nat) (s16 : Nat) (s17 : Nat) (k0 : ClassId) (g0 : Nat → Int32) (x0 : Int32) : Met l yX11_addBytes (.code yX11_addBytes cX11_addBytes 3 none :: wsA) ({ frames := 0, cells := 0, slots := 0, locals := 0 }) (va_Pc [.ref h0, .int x0] (fun U => U.heap.size = sz ∧ va_P (dC, dI) classes [(h0, .inr (11, [.ref s0, .int 16, .ref s2, .ref s3, .ref s4, .int 0, .int (-1), .ref s7, .ref s8, .ref s9, .ref s10, .ref s11, .ref s12, .ref s13, .ref s14, .ref s15, .ref s16, .ref s17, .int 0])), (s0, .inl (k0, 400, .inl g0))] U.heap ∧ va_K (dC, dI) classes [(k0, .int)] U ∧ va_D (fun _ => True) [(h0, .inr (11, [.ref s0, .int 16, .ref s2, .ref s3, .ref s4, .int 0, .int (-1), .ref s7, .ref s8, .ref s9, .ref s10, .ref s11, .ref s12, .ref s13, .ref s14, .ref s15, .ref s16, .ref s17, .int 0])), (s0, .inl (k0, 400, .inl g0))] ∧ xE U)) (va_Qv (fun (_ : Unit) => True) (fun _ t => ∃ (o_f_15 : Nat → Int32), va_P (dC, dI) classes [(h0, .inr (11, [.ref s0, .int 20, .ref s2, .ref s3, .ref s4, .int 0, .int (-1), .ref s7, .ref s8, .ref s9, .ref s10, .ref s11, .ref s12, .ref s13, .ref s14, .ref s15, .ref s16, .ref s17, .int 0])), (s0, .inl (k0, 400, .inl o_f_15))] t.heap ∧ va_K (dC, dI) classes [(k0, .int)] t ∧ va_D (va_A [(h0, .inr (11, [.ref s0, .int 16, .ref s2, .ref s3, .ref s4, .int 0, .int (-1), .ref s7, .ref s8, .ref s9, .ref s10, .ref s11, .ref s12, .ref s13, .ref s14, .ref s15, .ref s16, .ref s17, .int 0])), (s0, .inl (k0, 400, .inl g0))] sz) [(h0, .inr (11, [.ref s0, .int 20, .ref s2, .ref s3, .ref s4, .int 0, .int (-1), .ref s7, .ref s8, .ref s9, .ref s10, .ref s11, .ref s12, .ref s13, .ref s14, .ref s15, .ref s16, .ref s17, .int 0])), (s0, .inl (k0, 400, .inl o_f_15))]) (va_A [(h0, .inr (11, [.ref s0, .int 16, .ref s2, .ref s3, .ref s4, .int 0, .int (-1), .ref s7, .ref s8, .ref s9, .ref s10, .ref s11, .ref s12, .ref s13, .ref s14, .ref s15, .ref s16, .ref s17, .int 0])), (s0, .inl (k0, 400, .inl g0))] sz)) 0 0 (va_A [(h0, .inr (11, [.ref s0, .int 16, .ref s2, .ref s3, .ref s4, .int 0, .int (-1), .ref s7, .ref s8, .ref s9, .ref s10, .ref s11, .ref s12, .ref s13, .ref s14, .ref s15, .ref s16, .ref s17, .int 0])), (s0, .inl (k0, 400, .inl g0))] sz) := by
  refine Met.ofW (cc := cX11_addBytes) (maxL := 3) (ret := none) (by decide) rfl ?_
  intro p e s m args below meth c s₁ B hml hv
  obtain ⟨rfl, hsz, hP, hK, hD0, hE⟩ := hv
  have hx := B.exec
  have hb := B.bytes
  have hr := B.returns
  have hts := atoms_spec (ws := .code yX11_addBytes cX11_addBytes 3 none :: wsA) B.pre
  have hq : ∀ w ∈ wsA, w.before _ s = true := fun w h => hts w (List.mem_cons_of_mem _ h)
  have hown : s.vm.findClass RX11 = some m.cls := findClass_of_methodNamed B.named
  have hlocks := B.notSynchronized
  subst hsz
  have hD := hD0.self (sz := s.heap.size)
  generalize hAe : va_A [(h0, .inr (11, [.ref s0, .int 16, .ref s2, .ref s3, .ref s4, .int 0, .int (-1), .ref s7, .ref s8, .ref s9, .ref s10, .ref s11, .ref s12, .ref s13, .ref s14, .ref s15, .ref s16, .ref s17, .int 0])), (s0, .inl (k0, 400, .inl g0))] s.heap.size = A at hD ⊢
  have hA : ∀ q : Nat, s.heap.size ≤ q → A q := fun q h => by rw [← hAe]; exact Or.inr h
  have hS : va_S A s.heap s.heap [] := va_S.rf
  have hl := lv_entry ([.ref h0, .int x0]) (n := 3) (Nat.le_of_ble_eq_true rfl)
  rw [lg_entry_eq]
  generalize (lg_sl ([.ref h0, .int x0]) ++ List.replicate (3 - (lg_sl ([.ref h0, .int x0])).length) Slot.unset).toArray = ls at hl ⊢
  have hl : lv_has ls 3 [(0, .ref h0), (1, .int x0)] := hl
  refine lv_bipush (v := 24) hx hb dX11_addBytes_0 (by decide) ?_
  refine lv_istore_n (lv' := [(2, .int 24), (0, .ref h0), (1, .int x0)]) hx hb dX11_addBytes_2 rfl hl (by decide) rfl (fun ls hl => ?_)
  refine lv_iload_n hx hb dX11_addBytes_3 rfl (lv_at hl 0 rfl) ?_
  refine lv_if_lt (tgt := 58) hx hb dX11_addBytes_4 (by decide) (fun c9 => absurd c9 (by decide)) (fun _ => ?_)
  refine lv_aload_n hx hb dX11_addBytes_7 rfl (lv_at hl 1 rfl) ?_
  refine va_get (D := (dC, dI)) (ci := 11) (v := .int 16) (C := RX11) (T := TX11) (N := 19) hx hb hq inX11 hown hK hP 0 rfl rfl 1 (by decide) (hq _ qw_450) (fun _ h9 => h9) rfl dX11_addBytes_8 ?_
  refine lv_if_lt (tgt := 52) hx hb dX11_addBytes_11 (by decide) (fun c9 => absurd c9 (by decide)) (fun _ => ?_)
  refine lv_aload_n hx hb dX11_addBytes_14 rfl (lv_at hl 1 rfl) ?_
  refine va_get (D := (dC, dI)) (ci := 11) (v := .int 16) (C := RX11) (T := TX11) (N := 19) hx hb hq inX11 hown hK hP 0 rfl rfl 1 (by decide) (hq _ qw_450) (fun _ h9 => h9) rfl dX11_addBytes_15 ?_
  refine lv_aload_n hx hb dX11_addBytes_18 rfl (lv_at hl 1 rfl) ?_
  refine va_get (D := (dC, dI)) (ci := 11) (v := .ref s0) (C := RX11) (T := TX11) (N := 19) hx hb hq inX11 hown hK hP 0 rfl rfl 0 (by decide) (hq _ qw_449) (fun _ h9 => h9) rfl dX11_addBytes_19 ?_
  refine va_alen (v := 400) hx hb hK hP 1 0 rfl rfl rfl dX11_addBytes_22 ?_
  refine lv_icmp_ge (tgt := 52) hx hb dX11_addBytes_23 (by decide) (fun c9 => absurd c9 (by decide)) (fun _ => ?_)
  refine lv_aload_n hx hb dX11_addBytes_26 rfl (lv_at hl 1 rfl) ?_
  refine va_get (D := (dC, dI)) (ci := 11) (v := .ref s0) (C := RX11) (T := TX11) (N := 19) hx hb hq inX11 hown hK hP 0 rfl rfl 0 (by decide) (hq _ qw_449) (fun _ h9 => h9) rfl dX11_addBytes_27 ?_
  refine lv_aload_n hx hb dX11_addBytes_30 rfl (lv_at hl 1 rfl) ?_
  refine va_get (D := (dC, dI)) (ci := 11) (v := .int 16) (C := RX11) (T := TX11) (N := 19) hx hb hq inX11 hown hK hP 0 rfl rfl 1 (by decide) (hq _ qw_450) (fun _ h9 => h9) rfl dX11_addBytes_31 ?_
  refine lv_iload_n hx hb dX11_addBytes_34 rfl (lv_at hl 2 rfl) ?_
  refine lv_iload_n hx hb dX11_addBytes_35 rfl (lv_at hl 0 rfl) ?_
  refine lv_iushr hx hb dX11_addBytes_36 rfl ?_
  refine lv_topi (fun y_1 ey_1 => ?_)
  refine lv_sipush (v := 255) hx hb dX11_addBytes_37 (by decide) ?_
  refine lv_iand hx hb dX11_addBytes_40 ?_
  refine lv_topi (fun y_2 ey_2 => ?_)
  refine va_iast hx hb hK hP hD hS 1 0 rfl rfl (inr_ok rfl) dX11_addBytes_41 (fun H locs hP hD hS => ?_)
  generalize upd g0 (Int32.toNatClampNeg 16) y_2 = f_3 at hP hD
  have hP : va_P (dC, dI) classes [(h0, .inr (11, [.ref s0, .int 16, .ref s2, .ref s3, .ref s4, .int 0, .int (-1), .ref s7, .ref s8, .ref s9, .ref s10, .ref s11, .ref s12, .ref s13, .ref s14, .ref s15, .ref s16, .ref s17, .int 0])), (s0, .inl (k0, 400, .inl f_3))] H := hP
  have hD : va_D A [(h0, .inr (11, [.ref s0, .int 16, .ref s2, .ref s3, .ref s4, .int 0, .int (-1), .ref s7, .ref s8, .ref s9, .ref s10, .ref s11, .ref s12, .ref s13, .ref s14, .ref s15, .ref s16, .ref s17, .int 0])), (s0, .inl (k0, 400, .inl f_3))] := hD
  refine lv_aload_n hx hb dX11_addBytes_42 rfl (lv_at hl 1 rfl) ?_
  refine lv_dup hx hb dX11_addBytes_43 rfl ?_
  refine va_get (D := (dC, dI)) (ci := 11) (v := .int 16) (C := RX11) (T := TX11) (N := 19) hx hb hq inX11 hown hK hP 0 rfl rfl 1 (by decide) (hq _ qw_450) (fun _ h9 => h9) rfl dX11_addBytes_44 ?_
  refine lv_iconst (v := 1) hx hb dX11_addBytes_47 (by decide) ?_
  refine lv_iadd hx hb dX11_addBytes_48 ?_
  refine lv_topi (fun y_4 ey_4 => ?_)
  obtain rfl : y_4 = 17 := ey_4.trans (by decide)
  refine va_put (D := (dC, dI)) (ci := 11) (v := .int 17) (ty := .int) (C := RX11) (T := TX11) (N := 19) hx hb hq inX11 tyX11 tyX11_ok nmX11 hown hK hP hD hS 0 rfl rfl 1 (by decide) (hq _ qw_450) (fun _ h9 => h9) rfl (by decide +kernel) rfl rfl (Nat.le_of_ble_eq_true rfl) dX11_addBytes_49 (fun H locs hP hD hS => ?_)
  have hP : va_P (dC, dI) classes [(h0, .inr (11, [.ref s0, .int 17, .ref s2, .ref s3, .ref s4, .int 0, .int (-1), .ref s7, .ref s8, .ref s9, .ref s10, .ref s11, .ref s12, .ref s13, .ref s14, .ref s15, .ref s16, .ref s17, .int 0])), (s0, .inl (k0, 400, .inl f_3))] H := hP
  have hD : va_D A [(h0, .inr (11, [.ref s0, .int 17, .ref s2, .ref s3, .ref s4, .int 0, .int (-1), .ref s7, .ref s8, .ref s9, .ref s10, .ref s11, .ref s12, .ref s13, .ref s14, .ref s15, .ref s16, .ref s17, .int 0])), (s0, .inl (k0, 400, .inl f_3))] := hD
  refine lv_iinc (v := 16) (lv' := [(2, .int 16), (0, .ref h0), (1, .int x0)]) hx hb dX11_addBytes_52 hl (k := 0) rfl (by decide) (by decide) rfl (fun ls hl => ?_)
  refine lv_goto (tgt := 3) hx hb dX11_addBytes_55 (by decide) ?_
  refine lv_iload_n hx hb dX11_addBytes_3 rfl (lv_at hl 0 rfl) ?_
  refine lv_if_lt (tgt := 58) hx hb dX11_addBytes_4 (by decide) (fun c9 => absurd c9 (by decide)) (fun _ => ?_)
  refine lv_aload_n hx hb dX11_addBytes_7 rfl (lv_at hl 1 rfl) ?_
  refine va_get (D := (dC, dI)) (ci := 11) (v := .int 17) (C := RX11) (T := TX11) (N := 19) hx hb hq inX11 hown hK hP 0 rfl rfl 1 (by decide) (hq _ qw_450) (fun _ h9 => h9) rfl dX11_addBytes_8 ?_
  refine lv_if_lt (tgt := 52) hx hb dX11_addBytes_11 (by decide) (fun c9 => absurd c9 (by decide)) (fun _ => ?_)
  refine lv_aload_n hx hb dX11_addBytes_14 rfl (lv_at hl 1 rfl) ?_
  refine va_get (D := (dC, dI)) (ci := 11) (v := .int 17) (C := RX11) (T := TX11) (N := 19) hx hb hq inX11 hown hK hP 0 rfl rfl 1 (by decide) (hq _ qw_450) (fun _ h9 => h9) rfl dX11_addBytes_15 ?_
  refine lv_aload_n hx hb dX11_addBytes_18 rfl (lv_at hl 1 rfl) ?_
  refine va_get (D := (dC, dI)) (ci := 11) (v := .ref s0) (C := RX11) (T := TX11) (N := 19) hx hb hq inX11 hown hK hP 0 rfl rfl 0 (by decide) (hq _ qw_449) (fun _ h9 => h9) rfl dX11_addBytes_19 ?_
  refine va_alen (v := 400) hx hb hK hP 1 0 rfl rfl rfl dX11_addBytes_22 ?_
  refine lv_icmp_ge (tgt := 52) hx hb dX11_addBytes_23 (by decide) (fun c9 => absurd c9 (by decide)) (fun _ => ?_)
  refine lv_aload_n hx hb dX11_addBytes_26 rfl (lv_at hl 1 rfl) ?_
  refine va_get (D := (dC, dI)) (ci := 11) (v := .ref s0) (C := RX11) (T := TX11) (N := 19) hx hb hq inX11 hown hK hP 0 rfl rfl 0 (by decide) (hq _ qw_449) (fun _ h9 => h9) rfl dX11_addBytes_27 ?_
  refine lv_aload_n hx hb dX11_addBytes_30 rfl (lv_at hl 1 rfl) ?_
  refine va_get (D := (dC, dI)) (ci := 11) (v := .int 17) (C := RX11) (T := TX11) (N := 19) hx hb hq inX11 hown hK hP 0 rfl rfl 1 (by decide) (hq _ qw_450) (fun _ h9 => h9) rfl dX11_addBytes_31 ?_
  refine lv_iload_n hx hb dX11_addBytes_34 rfl (lv_at hl 2 rfl) ?_
  refine lv_iload_n hx hb dX11_addBytes_35 rfl (lv_at hl 0 rfl) ?_
  refine lv_iushr hx hb dX11_addBytes_36 rfl ?_
  refine lv_topi (fun y_5 ey_5 => ?_)
  refine lv_sipush (v := 255) hx hb dX11_addBytes_37 (by decide) ?_
  refine lv_iand hx hb dX11_addBytes_40 ?_
  refine lv_topi (fun y_6 ey_6 => ?_)
  refine va_iast hx hb hK hP hD hS 1 0 rfl rfl (inr_ok rfl) dX11_addBytes_41 (fun H locs hP hD hS => ?_)
  generalize upd f_3 (Int32.toNatClampNeg 17) y_6 = f_7 at hP hD
  have hP : va_P (dC, dI) classes [(h0, .inr (11, [.ref s0, .int 17, .ref s2, .ref s3, .ref s4, .int 0, .int (-1), .ref s7, .ref s8, .ref s9, .ref s10, .ref s11, .ref s12, .ref s13, .ref s14, .ref s15, .ref s16, .ref s17, .int 0])), (s0, .inl (k0, 400, .inl f_7))] H := hP
  have hD : va_D A [(h0, .inr (11, [.ref s0, .int 17, .ref s2, .ref s3, .ref s4, .int 0, .int (-1), .ref s7, .ref s8, .ref s9, .ref s10, .ref s11, .ref s12, .ref s13, .ref s14, .ref s15, .ref s16, .ref s17, .int 0])), (s0, .inl (k0, 400, .inl f_7))] := hD
  refine lv_aload_n hx hb dX11_addBytes_42 rfl (lv_at hl 1 rfl) ?_
  refine lv_dup hx hb dX11_addBytes_43 rfl ?_
  refine va_get (D := (dC, dI)) (ci := 11) (v := .int 17) (C := RX11) (T := TX11) (N := 19) hx hb hq inX11 hown hK hP 0 rfl rfl 1 (by decide) (hq _ qw_450) (fun _ h9 => h9) rfl dX11_addBytes_44 ?_
  refine lv_iconst (v := 1) hx hb dX11_addBytes_47 (by decide) ?_
  refine lv_iadd hx hb dX11_addBytes_48 ?_
  refine lv_topi (fun y_8 ey_8 => ?_)
  obtain rfl : y_8 = 18 := ey_8.trans (by decide)
  refine va_put (D := (dC, dI)) (ci := 11) (v := .int 18) (ty := .int) (C := RX11) (T := TX11) (N := 19) hx hb hq inX11 tyX11 tyX11_ok nmX11 hown hK hP hD hS 0 rfl rfl 1 (by decide) (hq _ qw_450) (fun _ h9 => h9) rfl (by decide +kernel) rfl rfl (Nat.le_of_ble_eq_true rfl) dX11_addBytes_49 (fun H locs hP hD hS => ?_)
  have hP : va_P (dC, dI) classes [(h0, .inr (11, [.ref s0, .int 18, .ref s2, .ref s3, .ref s4, .int 0, .int (-1), .ref s7, .ref s8, .ref s9, .ref s10, .ref s11, .ref s12, .ref s13, .ref s14, .ref s15, .ref s16, .ref s17, .int 0])), (s0, .inl (k0, 400, .inl f_7))] H := hP
  have hD : va_D A [(h0, .inr (11, [.ref s0, .int 18, .ref s2, .ref s3, .ref s4, .int 0, .int (-1), .ref s7, .ref s8, .ref s9, .ref s10, .ref s11, .ref s12, .ref s13, .ref s14, .ref s15, .ref s16, .ref s17, .int 0])), (s0, .inl (k0, 400, .inl f_7))] := hD
  refine lv_iinc (v := 8) (lv' := [(2, .int 8), (0, .ref h0), (1, .int x0)]) hx hb dX11_addBytes_52 hl (k := 0) rfl (by decide) (by decide) rfl (fun ls hl => ?_)
  refine lv_goto (tgt := 3) hx hb dX11_addBytes_55 (by decide) ?_
  refine lv_iload_n hx hb dX11_addBytes_3 rfl (lv_at hl 0 rfl) ?_
  refine lv_if_lt (tgt := 58) hx hb dX11_addBytes_4 (by decide) (fun c9 => absurd c9 (by decide)) (fun _ => ?_)
  refine lv_aload_n hx hb dX11_addBytes_7 rfl (lv_at hl 1 rfl) ?_
  refine va_get (D := (dC, dI)) (ci := 11) (v := .int 18) (C := RX11) (T := TX11) (N := 19) hx hb hq inX11 hown hK hP 0 rfl rfl 1 (by decide) (hq _ qw_450) (fun _ h9 => h9) rfl dX11_addBytes_8 ?_
  refine lv_if_lt (tgt := 52) hx hb dX11_addBytes_11 (by decide) (fun c9 => absurd c9 (by decide)) (fun _ => ?_)
  refine lv_aload_n hx hb dX11_addBytes_14 rfl (lv_at hl 1 rfl) ?_
  refine va_get (D := (dC, dI)) (ci := 11) (v := .int 18) (C := RX11) (T := TX11) (N := 19) hx hb hq inX11 hown hK hP 0 rfl rfl 1 (by decide) (hq _ qw_450) (fun _ h9 => h9) rfl dX11_addBytes_15 ?_
  refine lv_aload_n hx hb dX11_addBytes_18 rfl (lv_at hl 1 rfl) ?_
  refine va_get (D := (dC, dI)) (ci := 11) (v := .ref s0) (C := RX11) (T := TX11) (N := 19) hx hb hq inX11 hown hK hP 0 rfl rfl 0 (by decide) (hq _ qw_449) (fun _ h9 => h9) rfl dX11_addBytes_19 ?_
  refine va_alen (v := 400) hx hb hK hP 1 0 rfl rfl rfl dX11_addBytes_22 ?_
  refine lv_icmp_ge (tgt := 52) hx hb dX11_addBytes_23 (by decide) (fun c9 => absurd c9 (by decide)) (fun _ => ?_)
  refine lv_aload_n hx hb dX11_addBytes_26 rfl (lv_at hl 1 rfl) ?_
  refine va_get (D := (dC, dI)) (ci := 11) (v := .ref s0) (C := RX11) (T := TX11) (N := 19) hx hb hq inX11 hown hK hP 0 rfl rfl 0 (by decide) (hq _ qw_449) (fun _ h9 => h9) rfl dX11_addBytes_27 ?_
  refine lv_aload_n hx hb dX11_addBytes_30 rfl (lv_at hl 1 rfl) ?_
  refine va_get (D := (dC, dI)) (ci := 11) (v := .int 18) (C := RX11) (T := TX11) (N := 19) hx hb hq inX11 hown hK hP 0 rfl rfl 1 (by decide) (hq _ qw_450) (fun _ h9 => h9) rfl dX11_addBytes_31 ?_
  refine lv_iload_n hx hb dX11_addBytes_34 rfl (lv_at hl 2 rfl) ?_
  refine lv_iload_n hx hb dX11_addBytes_35 rfl (lv_at hl 0 rfl) ?_
  refine lv_iushr hx hb dX11_addBytes_36 rfl ?_
  refine lv_topi (fun y_9 ey_9 => ?_)
  refine lv_sipush (v := 255) hx hb dX11_addBytes_37 (by decide) ?_
  refine lv_iand hx hb dX11_addBytes_40 ?_
  refine lv_topi (fun y_10 ey_10 => ?_)
  refine va_iast hx hb hK hP hD hS 1 0 rfl rfl (inr_ok rfl) dX11_addBytes_41 (fun H locs hP hD hS => ?_)
  generalize upd f_7 (Int32.toNatClampNeg 18) y_10 = f_11 at hP hD
  have hP : va_P (dC, dI) classes [(h0, .inr (11, [.ref s0, .int 18, .ref s2, .ref s3, .ref s4, .int 0, .int (-1), .ref s7, .ref s8, .ref s9, .ref s10, .ref s11, .ref s12, .ref s13, .ref s14, .ref s15, .ref s16, .ref s17, .int 0])), (s0, .inl (k0, 400, .inl f_11))] H := hP
  have hD : va_D A [(h0, .inr (11, [.ref s0, .int 18, .ref s2, .ref s3, .ref s4, .int 0, .int (-1), .ref s7, .ref s8, .ref s9, .ref s10, .ref s11, .ref s12, .ref s13, .ref s14, .ref s15, .ref s16, .ref s17, .int 0])), (s0, .inl (k0, 400, .inl f_11))] := hD
  refine lv_aload_n hx hb dX11_addBytes_42 rfl (lv_at hl 1 rfl) ?_
  refine lv_dup hx hb dX11_addBytes_43 rfl ?_
  refine va_get (D := (dC, dI)) (ci := 11) (v := .int 18) (C := RX11) (T := TX11) (N := 19) hx hb hq inX11 hown hK hP 0 rfl rfl 1 (by decide) (hq _ qw_450) (fun _ h9 => h9) rfl dX11_addBytes_44 ?_
  refine lv_iconst (v := 1) hx hb dX11_addBytes_47 (by decide) ?_
  refine lv_iadd hx hb dX11_addBytes_48 ?_
  refine lv_topi (fun y_12 ey_12 => ?_)
  obtain rfl : y_12 = 19 := ey_12.trans (by decide)
  refine va_put (D := (dC, dI)) (ci := 11) (v := .int 19) (ty := .int) (C := RX11) (T := TX11) (N := 19) hx hb hq inX11 tyX11 tyX11_ok nmX11 hown hK hP hD hS 0 rfl rfl 1 (by decide) (hq _ qw_450) (fun _ h9 => h9) rfl (by decide +kernel) rfl rfl (Nat.le_of_ble_eq_true rfl) dX11_addBytes_49 (fun H locs hP hD hS => ?_)
  have hP : va_P (dC, dI) classes [(h0, .inr (11, [.ref s0, .int 19, .ref s2, .ref s3, .ref s4, .int 0, .int (-1), .ref s7, .ref s8, .ref s9, .ref s10, .ref s11, .ref s12, .ref s13, .ref s14, .ref s15, .ref s16, .ref s17, .int 0])), (s0, .inl (k0, 400, .inl f_11))] H := hP
  have hD : va_D A [(h0, .inr (11, [.ref s0, .int 19, .ref s2, .ref s3, .ref s4, .int 0, .int (-1), .ref s7, .ref s8, .ref s9, .ref s10, .ref s11, .ref s12, .ref s13, .ref s14, .ref s15, .ref s16, .ref s17, .int 0])), (s0, .inl (k0, 400, .inl f_11))] := hD
  refine lv_iinc (v := 0) (lv' := [(2, .int 0), (0, .ref h0), (1, .int x0)]) hx hb dX11_addBytes_52 hl (k := 0) rfl (by decide) (by decide) rfl (fun ls hl => ?_)
  refine lv_goto (tgt := 3) hx hb dX11_addBytes_55 (by decide) ?_
  refine lv_iload_n hx hb dX11_addBytes_3 rfl (lv_at hl 0 rfl) ?_
  refine lv_if_lt (tgt := 58) hx hb dX11_addBytes_4 (by decide) (fun c9 => absurd c9 (by decide)) (fun _ => ?_)
  refine lv_aload_n hx hb dX11_addBytes_7 rfl (lv_at hl 1 rfl) ?_
  refine va_get (D := (dC, dI)) (ci := 11) (v := .int 19) (C := RX11) (T := TX11) (N := 19) hx hb hq inX11 hown hK hP 0 rfl rfl 1 (by decide) (hq _ qw_450) (fun _ h9 => h9) rfl dX11_addBytes_8 ?_
  refine lv_if_lt (tgt := 52) hx hb dX11_addBytes_11 (by decide) (fun c9 => absurd c9 (by decide)) (fun _ => ?_)
  refine lv_aload_n hx hb dX11_addBytes_14 rfl (lv_at hl 1 rfl) ?_
  refine va_get (D := (dC, dI)) (ci := 11) (v := .int 19) (C := RX11) (T := TX11) (N := 19) hx hb hq inX11 hown hK hP 0 rfl rfl 1 (by decide) (hq _ qw_450) (fun _ h9 => h9) rfl dX11_addBytes_15 ?_
  refine lv_aload_n hx hb dX11_addBytes_18 rfl (lv_at hl 1 rfl) ?_
  refine va_get (D := (dC, dI)) (ci := 11) (v := .ref s0) (C := RX11) (T := TX11) (N := 19) hx hb hq inX11 hown hK hP 0 rfl rfl 0 (by decide) (hq _ qw_449) (fun _ h9 => h9) rfl dX11_addBytes_19 ?_
  refine va_alen (v := 400) hx hb hK hP 1 0 rfl rfl rfl dX11_addBytes_22 ?_
  refine lv_icmp_ge (tgt := 52) hx hb dX11_addBytes_23 (by decide) (fun c9 => absurd c9 (by decide)) (fun _ => ?_)
  refine lv_aload_n hx hb dX11_addBytes_26 rfl (lv_at hl 1 rfl) ?_
  refine va_get (D := (dC, dI)) (ci := 11) (v := .ref s0) (C := RX11) (T := TX11) (N := 19) hx hb hq inX11 hown hK hP 0 rfl rfl 0 (by decide) (hq _ qw_449) (fun _ h9 => h9) rfl dX11_addBytes_27 ?_
  refine lv_aload_n hx hb dX11_addBytes_30 rfl (lv_at hl 1 rfl) ?_
  refine va_get (D := (dC, dI)) (ci := 11) (v := .int 19) (C := RX11) (T := TX11) (N := 19) hx hb hq inX11 hown hK hP 0 rfl rfl 1 (by decide) (hq _ qw_450) (fun _ h9 => h9) rfl dX11_addBytes_31 ?_
  refine lv_iload_n hx hb dX11_addBytes_34 rfl (lv_at hl 2 rfl) ?_
  refine lv_iload_n hx hb dX11_addBytes_35 rfl (lv_at hl 0 rfl) ?_
  refine lv_iushr hx hb dX11_addBytes_36 rfl ?_
  refine lv_topi (fun y_13 ey_13 => ?_)
  refine lv_sipush (v := 255) hx hb dX11_addBytes_37 (by decide) ?_
  refine lv_iand hx hb dX11_addBytes_40 ?_
  refine lv_topi (fun y_14 ey_14 => ?_)
  refine va_iast hx hb hK hP hD hS 1 0 rfl rfl (inr_ok rfl) dX11_addBytes_41 (fun H locs hP hD hS => ?_)
  generalize upd f_11 (Int32.toNatClampNeg 19) y_14 = f_15 at hP hD
  have hP : va_P (dC, dI) classes [(h0, .inr (11, [.ref s0, .int 19, .ref s2, .ref s3, .ref s4, .int 0, .int (-1), .ref s7, .ref s8, .ref s9, .ref s10, .ref s11, .ref s12, .ref s13, .ref s14, .ref s15, .ref s16, .ref s17, .int 0])), (s0, .inl (k0, 400, .inl f_15))] H := hP
  have hD : va_D A [(h0, .inr (11, [.ref s0, .int 19, .ref s2, .ref s3, .ref s4, .int 0, .int (-1), .ref s7, .ref s8, .ref s9, .ref s10, .ref s11, .ref s12, .ref s13, .ref s14, .ref s15, .ref s16, .ref s17, .int 0])), (s0, .inl (k0, 400, .inl f_15))] := hD
  refine lv_aload_n hx hb dX11_addBytes_42 rfl (lv_at hl 1 rfl) ?_
  refine lv_dup hx hb dX11_addBytes_43 rfl ?_
  refine va_get (D := (dC, dI)) (ci := 11) (v := .int 19) (C := RX11) (T := TX11) (N := 19) hx hb hq inX11 hown hK hP 0 rfl rfl 1 (by decide) (hq _ qw_450) (fun _ h9 => h9) rfl dX11_addBytes_44 ?_
  refine lv_iconst (v := 1) hx hb dX11_addBytes_47 (by decide) ?_
  refine lv_iadd hx hb dX11_addBytes_48 ?_
  refine lv_topi (fun y_16 ey_16 => ?_)
  obtain rfl : y_16 = 20 := ey_16.trans (by decide)
  refine va_put (D := (dC, dI)) (ci := 11) (v := .int 20) (ty := .int) (C := RX11) (T := TX11) (N := 19) hx hb hq inX11 tyX11 tyX11_ok nmX11 hown hK hP hD hS 0 rfl rfl 1 (by decide) (hq _ qw_450) (fun _ h9 => h9) rfl (by decide +kernel) rfl rfl (Nat.le_of_ble_eq_true rfl) dX11_addBytes_49 (fun H locs hP hD hS => ?_)
  have hP : va_P (dC, dI) classes [(h0, .inr (11, [.ref s0, .int 20, .ref s2, .ref s3, .ref s4, .int 0, .int (-1), .ref s7, .ref s8, .ref s9, .ref s10, .ref s11, .ref s12, .ref s13, .ref s14, .ref s15, .ref s16, .ref s17, .int 0])), (s0, .inl (k0, 400, .inl f_15))] H := hP
  have hD : va_D A [(h0, .inr (11, [.ref s0, .int 20, .ref s2, .ref s3, .ref s4, .int 0, .int (-1), .ref s7, .ref s8, .ref s9, .ref s10, .ref s11, .ref s12, .ref s13, .ref s14, .ref s15, .ref s16, .ref s17, .int 0])), (s0, .inl (k0, 400, .inl f_15))] := hD
  refine lv_iinc (v := (-8)) (lv' := [(2, .int (-8)), (0, .ref h0), (1, .int x0)]) hx hb dX11_addBytes_52 hl (k := 0) rfl (by decide) (by decide) rfl (fun ls hl => ?_)
  refine lv_goto (tgt := 3) hx hb dX11_addBytes_55 (by decide) ?_
  refine lv_iload_n hx hb dX11_addBytes_3 rfl (lv_at hl 0 rfl) ?_
  refine lv_if_lt (tgt := 58) hx hb dX11_addBytes_4 (by decide) (fun _ => ?_) (fun c9 => absurd c9 (by decide))
  have hP9 := hP.sub (ws' := [(h0, .inr (11, [.ref s0, .int 20, .ref s2, .ref s3, .ref s4, .int 0, .int (-1), .ref s7, .ref s8, .ref s9, .ref s10, .ref s11, .ref s12, .ref s13, .ref s14, .ref s15, .ref s16, .ref s17, .int 0])), (s0, .inl (k0, 400, .inl f_15))]) [0, 1] rfl
  have hD9 := hD.sub (ws' := [(h0, .inr (11, [.ref s0, .int 20, .ref s2, .ref s3, .ref s4, .int 0, .int (-1), .ref s7, .ref s8, .ref s9, .ref s10, .ref s11, .ref s12, .ref s13, .ref s14, .ref s15, .ref s16, .ref s17, .int 0])), (s0, .inl (k0, 400, .inl f_15))]) [0, 1] (by decide) rfl
  have hK9 := hK.sub (tys' := [(k0, .int)]) [0] rfl
  refine W.widen (k := 0) (n := 0) (Nat.le_of_ble_eq_true rfl) (Nat.le_of_ble_eq_true rfl) ?_
  exact W.vret hx hb hr (fun t ht hW => ⟨⟨(), rfl, trivial, f_15, by rw [ht]; exact hP9, va_K.moved hW.alike hK9, hD9⟩, hS.F ht⟩) hS.2.2 dX11_addBytes_58

set_option maxHeartbeats 4000000 in
set_option maxRecDepth 100000 in
/-- c_SB_feed -/
theorem c_SB_feed (l : Launch) (dC : Nat → ClassId) (dI : Nat → Nat → Nat) (sz : Nat) (h0 : Nat) (s0 : Nat) (s2 : Nat) (s3 : Nat) (s4 : Nat) (s7 : Nat) (s8 : Nat) (s9 : Nat) (s10 : Nat) (s11 : Nat) (s12 : Nat) (s13 : Nat) (s14 : Nat) (s15 : Nat) (s16 : Nat) (s17 : Nat) (k0 : ClassId) (g0 : Nat → Int32) (x0 : Int32) (x1 : Int32) (x2 : Int32) (x3 : Int32) (x4 : Int32) : Met l yX11_feed (.code yX11_feed cX11_feed 6 (some .int) :: wsA) ({ frames := 1, cells := 0, slots := 0, locals := 22 }) (va_Pc [.ref h0, .int x0, .int x1, .int x2, .int x3, .int x4] (fun U => U.heap.size = sz ∧ va_P (dC, dI) classes [(h0, .inr (11, [.ref s0, .int 0, .ref s2, .ref s3, .ref s4, .int 0, .int (-1), .ref s7, .ref s8, .ref s9, .ref s10, .ref s11, .ref s12, .ref s13, .ref s14, .ref s15, .ref s16, .ref s17, .int 0])), (s0, .inl (k0, 400, .inl g0))] U.heap ∧ va_K (dC, dI) classes [(k0, .int)] U ∧ va_D (fun _ => True) [(h0, .inr (11, [.ref s0, .int 0, .ref s2, .ref s3, .ref s4, .int 0, .int (-1), .ref s7, .ref s8, .ref s9, .ref s10, .ref s11, .ref s12, .ref s13, .ref s14, .ref s15, .ref s16, .ref s17, .int 0])), (s0, .inl (k0, 400, .inl g0))] ∧ xE U)) (va_Qi (fun (r : Int32) (_ : Unit) => r = 20) (fun _ _ => True) (va_A [(h0, .inr (11, [.ref s0, .int 0, .ref s2, .ref s3, .ref s4, .int 0, .int (-1), .ref s7, .ref s8, .ref s9, .ref s10, .ref s11, .ref s12, .ref s13, .ref s14, .ref s15, .ref s16, .ref s17, .int 0])), (s0, .inl (k0, 400, .inl g0))] sz)) 0 0 (va_A [(h0, .inr (11, [.ref s0, .int 0, .ref s2, .ref s3, .ref s4, .int 0, .int (-1), .ref s7, .ref s8, .ref s9, .ref s10, .ref s11, .ref s12, .ref s13, .ref s14, .ref s15, .ref s16, .ref s17, .int 0])), (s0, .inl (k0, 400, .inl g0))] sz) := by
  refine Met.ofW (cc := cX11_feed) (maxL := 6) (ret := (some .int)) (by decide) rfl ?_
  intro p e s m args below meth c s₁ B hml hv
  obtain ⟨rfl, hsz, hP, hK, hD0, hE⟩ := hv
  have hx := B.exec
  have hb := B.bytes
  have hr := B.returns
  have hts := atoms_spec (ws := .code yX11_feed cX11_feed 6 (some .int) :: wsA) B.pre
  have hq : ∀ w ∈ wsA, w.before _ s = true := fun w h => hts w (List.mem_cons_of_mem _ h)
  have hown : s.vm.findClass RX11 = some m.cls := findClass_of_methodNamed B.named
  have hlocks := B.notSynchronized
  subst hsz
  have hD := hD0.self (sz := s.heap.size)
  generalize hAe : va_A [(h0, .inr (11, [.ref s0, .int 0, .ref s2, .ref s3, .ref s4, .int 0, .int (-1), .ref s7, .ref s8, .ref s9, .ref s10, .ref s11, .ref s12, .ref s13, .ref s14, .ref s15, .ref s16, .ref s17, .int 0])), (s0, .inl (k0, 400, .inl g0))] s.heap.size = A at hD ⊢
  have hA : ∀ q : Nat, s.heap.size ≤ q → A q := fun q h => by rw [← hAe]; exact Or.inr h
  have hS : va_S A s.heap s.heap [] := va_S.rf
  have hl := lv_entry ([.ref h0, .int x0, .int x1, .int x2, .int x3, .int x4]) (n := 6) (Nat.le_of_ble_eq_true rfl)
  rw [lg_entry_eq]
  generalize (lg_sl ([.ref h0, .int x0, .int x1, .int x2, .int x3, .int x4]) ++ List.replicate (6 - (lg_sl ([.ref h0, .int x0, .int x1, .int x2, .int x3, .int x4])).length) Slot.unset).toArray = ls at hl ⊢
  have hl : lv_has ls 6 [(0, .ref h0), (1, .int x0), (2, .int x1), (3, .int x2), (4, .int x3), (5, .int x4)] := hl
  refine lv_aload_n hx hb dX11_feed_0 rfl (lv_at hl 0 rfl) ?_
  refine va_get (D := (dC, dI)) (ci := 11) (v := .int 0) (C := RX11) (T := TX11) (N := 19) hx hb hq inX11 hown hK hP 0 rfl rfl 1 (by decide) (hq _ qw_450) (fun _ h9 => h9) rfl dX11_feed_1 ?_
  refine lv_sipush (v := 380) hx hb dX11_feed_4 (by decide) ?_
  refine lv_icmp_le (tgt := 12) hx hb dX11_feed_7 (by decide) (fun _ => ?_) (fun c9 => absurd c9 (by decide))
  refine lv_aload_n hx hb dX11_feed_12 rfl (lv_at hl 0 rfl) ?_
  refine lv_iload_n hx hb dX11_feed_13 rfl (lv_at hl 1 rfl) ?_
  have hPc := hP.sub (ws' := [(h0, .inr (11, [.ref s0, .int 0, .ref s2, .ref s3, .ref s4, .int 0, .int (-1), .ref s7, .ref s8, .ref s9, .ref s10, .ref s11, .ref s12, .ref s13, .ref s14, .ref s15, .ref s16, .ref s17, .int 0])), (s0, .inl (k0, 400, .inl g0))]) [0, 1] rfl
  have hDc := hD.sub (ws' := [(h0, .inr (11, [.ref s0, .int 0, .ref s2, .ref s3, .ref s4, .int 0, .int (-1), .ref s7, .ref s8, .ref s9, .ref s10, .ref s11, .ref s12, .ref s13, .ref s14, .ref s15, .ref s16, .ref s17, .int 0])), (s0, .inl (k0, 400, .inl g0))]) [0, 1] (by decide) rfl
  have hKc := hK.sub (tys' := [(k0, .int)]) [0] rfl
  have hFc := va_free (wc := [(h0, .inr (11, [.ref s0, .int 0, .ref s2, .ref s3, .ref s4, .int 0, .int (-1), .ref s7, .ref s8, .ref s9, .ref s10, .ref s11, .ref s12, .ref s13, .ref s14, .ref s15, .ref s16, .ref s17, .int 0])), (s0, .inl (k0, 400, .inl g0))]) hD hS hA [0, 1] rfl
  refine va_callv (va_runV (As := [.int x0]) (rest := []) ⟨hx, hb, hml, hown, hq⟩ (c_SB_addBytes_0 l dC dI _ h0 s0 s2 s3 s4 s7 s8 s9 s10 s11 s12 s13 s14 s15 s16 s17 k0 g0 x0 ) (cwV 1 hq (gV qw_511 qw_513 qw_0 qw_119 qw_514) rfl rfl rfl (by decide +kernel) ⟨Nat.le_of_ble_eq_true rfl, Nat.le_of_ble_eq_true rfl⟩) ⟨fun a U g mk q => by obtain ⟨q0, q1, qP, qK, qD, qE⟩ := q; exact ⟨q0, q1, qP, va_K.moved (u := U) (U := U.calling g mk a) (Vm.Alike.refl U.vm) qK, qD, xE.same rfl qE⟩, va_recv hKc hPc (ci := 11) (q0 := 0) rfl rfl, fun U hU hW => ⟨rfl, by rw [hU], by rw [hU]; exact hPc, va_K.moved hW.alike hKc, hDc.weaken (fun _ _ _ _ => trivial), xE.warm hW hE⟩⟩ rfl rfl hl.1 rfl (lv_room (Nat.le_of_ble_eq_true rfl)) dX11_feed_14 ⟨Nat.le_of_ble_eq_true rfl, Nat.le_of_ble_eq_true rfl⟩) hS (fun q _ h => hFc q h) hFc (fun u t H1 locs ht hvm hw hB hz1 hk1 hS => ?_)
  obtain ⟨f_2, hP1, hK1, hD1⟩ := hB
  rw [ht] at hP1
  have hK1 := va_K.moved hvm.symm hK1
  obtain ⟨hP, hD⟩ := va_join (wr := []) (w1 := [(h0, .inr (11, [.ref s0, .int 4, .ref s2, .ref s3, .ref s4, .int 0, .int (-1), .ref s7, .ref s8, .ref s9, .ref s10, .ref s11, .ref s12, .ref s13, .ref s14, .ref s15, .ref s16, .ref s17, .int 0])), (s0, .inl (k0, 400, .inl f_2))]) hP hD [0, 1] [] rfl rfl (by decide) (by decide) hk1 hFc hP1 hD1
  generalize H1 = H at hP hS ⊢
  have hP : va_P (dC, dI) classes [(h0, .inr (11, [.ref s0, .int 4, .ref s2, .ref s3, .ref s4, .int 0, .int (-1), .ref s7, .ref s8, .ref s9, .ref s10, .ref s11, .ref s12, .ref s13, .ref s14, .ref s15, .ref s16, .ref s17, .int 0])), (s0, .inl (k0, 400, .inl f_2))] H := hP
  have hD : va_D A [(h0, .inr (11, [.ref s0, .int 4, .ref s2, .ref s3, .ref s4, .int 0, .int (-1), .ref s7, .ref s8, .ref s9, .ref s10, .ref s11, .ref s12, .ref s13, .ref s14, .ref s15, .ref s16, .ref s17, .int 0])), (s0, .inl (k0, 400, .inl f_2))] := hD
  refine lv_aload_n hx hb dX11_feed_17 rfl (lv_at hl 0 rfl) ?_
  refine lv_iload_n hx hb dX11_feed_18 rfl (lv_at hl 2 rfl) ?_
  have hPc := hP.sub (ws' := [(h0, .inr (11, [.ref s0, .int 4, .ref s2, .ref s3, .ref s4, .int 0, .int (-1), .ref s7, .ref s8, .ref s9, .ref s10, .ref s11, .ref s12, .ref s13, .ref s14, .ref s15, .ref s16, .ref s17, .int 0])), (s0, .inl (k0, 400, .inl f_2))]) [0, 1] rfl
  have hDc := hD.sub (ws' := [(h0, .inr (11, [.ref s0, .int 4, .ref s2, .ref s3, .ref s4, .int 0, .int (-1), .ref s7, .ref s8, .ref s9, .ref s10, .ref s11, .ref s12, .ref s13, .ref s14, .ref s15, .ref s16, .ref s17, .int 0])), (s0, .inl (k0, 400, .inl f_2))]) [0, 1] (by decide) rfl
  have hKc := hK.sub (tys' := [(k0, .int)]) [0] rfl
  have hFc := va_free (wc := [(h0, .inr (11, [.ref s0, .int 4, .ref s2, .ref s3, .ref s4, .int 0, .int (-1), .ref s7, .ref s8, .ref s9, .ref s10, .ref s11, .ref s12, .ref s13, .ref s14, .ref s15, .ref s16, .ref s17, .int 0])), (s0, .inl (k0, 400, .inl f_2))]) hD hS hA [0, 1] rfl
  refine va_callv (va_runV (As := [.int x1]) (rest := []) ⟨hx, hb, hml, hown, hq⟩ (c_SB_addBytes_4 l dC dI _ h0 s0 s2 s3 s4 s7 s8 s9 s10 s11 s12 s13 s14 s15 s16 s17 k0 f_2 x1 ) (cwV 1 hq (gV qw_511 qw_513 qw_0 qw_119 qw_514) rfl rfl rfl (by decide +kernel) ⟨Nat.le_of_ble_eq_true rfl, Nat.le_of_ble_eq_true rfl⟩) ⟨fun a U g mk q => by obtain ⟨q0, q1, qP, qK, qD, qE⟩ := q; exact ⟨q0, q1, qP, va_K.moved (u := U) (U := U.calling g mk a) (Vm.Alike.refl U.vm) qK, qD, xE.same rfl qE⟩, va_recv hKc hPc (ci := 11) (q0 := 0) rfl rfl, fun U hU hW => ⟨rfl, by rw [hU], by rw [hU]; exact hPc, va_K.moved hW.alike hKc, hDc.weaken (fun _ _ _ _ => trivial), xE.warm hW hE⟩⟩ rfl rfl hl.1 rfl (lv_room (Nat.le_of_ble_eq_true rfl)) dX11_feed_19 ⟨Nat.le_of_ble_eq_true rfl, Nat.le_of_ble_eq_true rfl⟩) hS (fun q _ h => hFc q h) hFc (fun u t H1 locs ht hvm hw hB hz1 hk1 hS => ?_)
  obtain ⟨f_4, hP1, hK1, hD1⟩ := hB
  rw [ht] at hP1
  have hK1 := va_K.moved hvm.symm hK1
  obtain ⟨hP, hD⟩ := va_join (wr := []) (w1 := [(h0, .inr (11, [.ref s0, .int 8, .ref s2, .ref s3, .ref s4, .int 0, .int (-1), .ref s7, .ref s8, .ref s9, .ref s10, .ref s11, .ref s12, .ref s13, .ref s14, .ref s15, .ref s16, .ref s17, .int 0])), (s0, .inl (k0, 400, .inl f_4))]) hP hD [0, 1] [] rfl rfl (by decide) (by decide) hk1 hFc hP1 hD1
  generalize H1 = H at hP hS ⊢
  have hP : va_P (dC, dI) classes [(h0, .inr (11, [.ref s0, .int 8, .ref s2, .ref s3, .ref s4, .int 0, .int (-1), .ref s7, .ref s8, .ref s9, .ref s10, .ref s11, .ref s12, .ref s13, .ref s14, .ref s15, .ref s16, .ref s17, .int 0])), (s0, .inl (k0, 400, .inl f_4))] H := hP
  have hD : va_D A [(h0, .inr (11, [.ref s0, .int 8, .ref s2, .ref s3, .ref s4, .int 0, .int (-1), .ref s7, .ref s8, .ref s9, .ref s10, .ref s11, .ref s12, .ref s13, .ref s14, .ref s15, .ref s16, .ref s17, .int 0])), (s0, .inl (k0, 400, .inl f_4))] := hD
  refine lv_aload_n hx hb dX11_feed_22 rfl (lv_at hl 0 rfl) ?_
  refine lv_iload_n hx hb dX11_feed_23 rfl (lv_at hl 3 rfl) ?_
  have hPc := hP.sub (ws' := [(h0, .inr (11, [.ref s0, .int 8, .ref s2, .ref s3, .ref s4, .int 0, .int (-1), .ref s7, .ref s8, .ref s9, .ref s10, .ref s11, .ref s12, .ref s13, .ref s14, .ref s15, .ref s16, .ref s17, .int 0])), (s0, .inl (k0, 400, .inl f_4))]) [0, 1] rfl
  have hDc := hD.sub (ws' := [(h0, .inr (11, [.ref s0, .int 8, .ref s2, .ref s3, .ref s4, .int 0, .int (-1), .ref s7, .ref s8, .ref s9, .ref s10, .ref s11, .ref s12, .ref s13, .ref s14, .ref s15, .ref s16, .ref s17, .int 0])), (s0, .inl (k0, 400, .inl f_4))]) [0, 1] (by decide) rfl
  have hKc := hK.sub (tys' := [(k0, .int)]) [0] rfl
  have hFc := va_free (wc := [(h0, .inr (11, [.ref s0, .int 8, .ref s2, .ref s3, .ref s4, .int 0, .int (-1), .ref s7, .ref s8, .ref s9, .ref s10, .ref s11, .ref s12, .ref s13, .ref s14, .ref s15, .ref s16, .ref s17, .int 0])), (s0, .inl (k0, 400, .inl f_4))]) hD hS hA [0, 1] rfl
  refine va_callv (va_runV (As := [.int x2]) (rest := []) ⟨hx, hb, hml, hown, hq⟩ (c_SB_addBytes_8 l dC dI _ h0 s0 s2 s3 s4 s7 s8 s9 s10 s11 s12 s13 s14 s15 s16 s17 k0 f_4 x2 ) (cwV 1 hq (gV qw_511 qw_513 qw_0 qw_119 qw_514) rfl rfl rfl (by decide +kernel) ⟨Nat.le_of_ble_eq_true rfl, Nat.le_of_ble_eq_true rfl⟩) ⟨fun a U g mk q => by obtain ⟨q0, q1, qP, qK, qD, qE⟩ := q; exact ⟨q0, q1, qP, va_K.moved (u := U) (U := U.calling g mk a) (Vm.Alike.refl U.vm) qK, qD, xE.same rfl qE⟩, va_recv hKc hPc (ci := 11) (q0 := 0) rfl rfl, fun U hU hW => ⟨rfl, by rw [hU], by rw [hU]; exact hPc, va_K.moved hW.alike hKc, hDc.weaken (fun _ _ _ _ => trivial), xE.warm hW hE⟩⟩ rfl rfl hl.1 rfl (lv_room (Nat.le_of_ble_eq_true rfl)) dX11_feed_24 ⟨Nat.le_of_ble_eq_true rfl, Nat.le_of_ble_eq_true rfl⟩) hS (fun q _ h => hFc q h) hFc (fun u t H1 locs ht hvm hw hB hz1 hk1 hS => ?_)
  obtain ⟨f_6, hP1, hK1, hD1⟩ := hB
  rw [ht] at hP1
  have hK1 := va_K.moved hvm.symm hK1
  obtain ⟨hP, hD⟩ := va_join (wr := []) (w1 := [(h0, .inr (11, [.ref s0, .int 12, .ref s2, .ref s3, .ref s4, .int 0, .int (-1), .ref s7, .ref s8, .ref s9, .ref s10, .ref s11, .ref s12, .ref s13, .ref s14, .ref s15, .ref s16, .ref s17, .int 0])), (s0, .inl (k0, 400, .inl f_6))]) hP hD [0, 1] [] rfl rfl (by decide) (by decide) hk1 hFc hP1 hD1
  generalize H1 = H at hP hS ⊢
  have hP : va_P (dC, dI) classes [(h0, .inr (11, [.ref s0, .int 12, .ref s2, .ref s3, .ref s4, .int 0, .int (-1), .ref s7, .ref s8, .ref s9, .ref s10, .ref s11, .ref s12, .ref s13, .ref s14, .ref s15, .ref s16, .ref s17, .int 0])), (s0, .inl (k0, 400, .inl f_6))] H := hP
  have hD : va_D A [(h0, .inr (11, [.ref s0, .int 12, .ref s2, .ref s3, .ref s4, .int 0, .int (-1), .ref s7, .ref s8, .ref s9, .ref s10, .ref s11, .ref s12, .ref s13, .ref s14, .ref s15, .ref s16, .ref s17, .int 0])), (s0, .inl (k0, 400, .inl f_6))] := hD
  refine lv_aload_n hx hb dX11_feed_27 rfl (lv_at hl 0 rfl) ?_
  refine lv_iload hx hb dX11_feed_28 (lv_at hl 4 rfl) ?_
  have hPc := hP.sub (ws' := [(h0, .inr (11, [.ref s0, .int 12, .ref s2, .ref s3, .ref s4, .int 0, .int (-1), .ref s7, .ref s8, .ref s9, .ref s10, .ref s11, .ref s12, .ref s13, .ref s14, .ref s15, .ref s16, .ref s17, .int 0])), (s0, .inl (k0, 400, .inl f_6))]) [0, 1] rfl
  have hDc := hD.sub (ws' := [(h0, .inr (11, [.ref s0, .int 12, .ref s2, .ref s3, .ref s4, .int 0, .int (-1), .ref s7, .ref s8, .ref s9, .ref s10, .ref s11, .ref s12, .ref s13, .ref s14, .ref s15, .ref s16, .ref s17, .int 0])), (s0, .inl (k0, 400, .inl f_6))]) [0, 1] (by decide) rfl
  have hKc := hK.sub (tys' := [(k0, .int)]) [0] rfl
  have hFc := va_free (wc := [(h0, .inr (11, [.ref s0, .int 12, .ref s2, .ref s3, .ref s4, .int 0, .int (-1), .ref s7, .ref s8, .ref s9, .ref s10, .ref s11, .ref s12, .ref s13, .ref s14, .ref s15, .ref s16, .ref s17, .int 0])), (s0, .inl (k0, 400, .inl f_6))]) hD hS hA [0, 1] rfl
  refine va_callv (va_runV (As := [.int x3]) (rest := []) ⟨hx, hb, hml, hown, hq⟩ (c_SB_addBytes_12 l dC dI _ h0 s0 s2 s3 s4 s7 s8 s9 s10 s11 s12 s13 s14 s15 s16 s17 k0 f_6 x3 ) (cwV 1 hq (gV qw_511 qw_513 qw_0 qw_119 qw_514) rfl rfl rfl (by decide +kernel) ⟨Nat.le_of_ble_eq_true rfl, Nat.le_of_ble_eq_true rfl⟩) ⟨fun a U g mk q => by obtain ⟨q0, q1, qP, qK, qD, qE⟩ := q; exact ⟨q0, q1, qP, va_K.moved (u := U) (U := U.calling g mk a) (Vm.Alike.refl U.vm) qK, qD, xE.same rfl qE⟩, va_recv hKc hPc (ci := 11) (q0 := 0) rfl rfl, fun U hU hW => ⟨rfl, by rw [hU], by rw [hU]; exact hPc, va_K.moved hW.alike hKc, hDc.weaken (fun _ _ _ _ => trivial), xE.warm hW hE⟩⟩ rfl rfl hl.1 rfl (lv_room (Nat.le_of_ble_eq_true rfl)) dX11_feed_30 ⟨Nat.le_of_ble_eq_true rfl, Nat.le_of_ble_eq_true rfl⟩) hS (fun q _ h => hFc q h) hFc (fun u t H1 locs ht hvm hw hB hz1 hk1 hS => ?_)
  obtain ⟨f_8, hP1, hK1, hD1⟩ := hB
  rw [ht] at hP1
  have hK1 := va_K.moved hvm.symm hK1
  obtain ⟨hP, hD⟩ := va_join (wr := []) (w1 := [(h0, .inr (11, [.ref s0, .int 16, .ref s2, .ref s3, .ref s4, .int 0, .int (-1), .ref s7, .ref s8, .ref s9, .ref s10, .ref s11, .ref s12, .ref s13, .ref s14, .ref s15, .ref s16, .ref s17, .int 0])), (s0, .inl (k0, 400, .inl f_8))]) hP hD [0, 1] [] rfl rfl (by decide) (by decide) hk1 hFc hP1 hD1
  generalize H1 = H at hP hS ⊢
  have hP : va_P (dC, dI) classes [(h0, .inr (11, [.ref s0, .int 16, .ref s2, .ref s3, .ref s4, .int 0, .int (-1), .ref s7, .ref s8, .ref s9, .ref s10, .ref s11, .ref s12, .ref s13, .ref s14, .ref s15, .ref s16, .ref s17, .int 0])), (s0, .inl (k0, 400, .inl f_8))] H := hP
  have hD : va_D A [(h0, .inr (11, [.ref s0, .int 16, .ref s2, .ref s3, .ref s4, .int 0, .int (-1), .ref s7, .ref s8, .ref s9, .ref s10, .ref s11, .ref s12, .ref s13, .ref s14, .ref s15, .ref s16, .ref s17, .int 0])), (s0, .inl (k0, 400, .inl f_8))] := hD
  refine lv_aload_n hx hb dX11_feed_33 rfl (lv_at hl 0 rfl) ?_
  refine lv_iload hx hb dX11_feed_34 (lv_at hl 5 rfl) ?_
  have hPc := hP.sub (ws' := [(h0, .inr (11, [.ref s0, .int 16, .ref s2, .ref s3, .ref s4, .int 0, .int (-1), .ref s7, .ref s8, .ref s9, .ref s10, .ref s11, .ref s12, .ref s13, .ref s14, .ref s15, .ref s16, .ref s17, .int 0])), (s0, .inl (k0, 400, .inl f_8))]) [0, 1] rfl
  have hDc := hD.sub (ws' := [(h0, .inr (11, [.ref s0, .int 16, .ref s2, .ref s3, .ref s4, .int 0, .int (-1), .ref s7, .ref s8, .ref s9, .ref s10, .ref s11, .ref s12, .ref s13, .ref s14, .ref s15, .ref s16, .ref s17, .int 0])), (s0, .inl (k0, 400, .inl f_8))]) [0, 1] (by decide) rfl
  have hKc := hK.sub (tys' := [(k0, .int)]) [0] rfl
  have hFc := va_free (wc := [(h0, .inr (11, [.ref s0, .int 16, .ref s2, .ref s3, .ref s4, .int 0, .int (-1), .ref s7, .ref s8, .ref s9, .ref s10, .ref s11, .ref s12, .ref s13, .ref s14, .ref s15, .ref s16, .ref s17, .int 0])), (s0, .inl (k0, 400, .inl f_8))]) hD hS hA [0, 1] rfl
  refine va_callv (va_runV (As := [.int x4]) (rest := []) ⟨hx, hb, hml, hown, hq⟩ (c_SB_addBytes_16 l dC dI _ h0 s0 s2 s3 s4 s7 s8 s9 s10 s11 s12 s13 s14 s15 s16 s17 k0 f_8 x4 ) (cwV 1 hq (gV qw_511 qw_513 qw_0 qw_119 qw_514) rfl rfl rfl (by decide +kernel) ⟨Nat.le_of_ble_eq_true rfl, Nat.le_of_ble_eq_true rfl⟩) ⟨fun a U g mk q => by obtain ⟨q0, q1, qP, qK, qD, qE⟩ := q; exact ⟨q0, q1, qP, va_K.moved (u := U) (U := U.calling g mk a) (Vm.Alike.refl U.vm) qK, qD, xE.same rfl qE⟩, va_recv hKc hPc (ci := 11) (q0 := 0) rfl rfl, fun U hU hW => ⟨rfl, by rw [hU], by rw [hU]; exact hPc, va_K.moved hW.alike hKc, hDc.weaken (fun _ _ _ _ => trivial), xE.warm hW hE⟩⟩ rfl rfl hl.1 rfl (lv_room (Nat.le_of_ble_eq_true rfl)) dX11_feed_36 ⟨Nat.le_of_ble_eq_true rfl, Nat.le_of_ble_eq_true rfl⟩) hS (fun q _ h => hFc q h) hFc (fun u t H1 locs ht hvm hw hB hz1 hk1 hS => ?_)
  obtain ⟨f_10, hP1, hK1, hD1⟩ := hB
  rw [ht] at hP1
  have hK1 := va_K.moved hvm.symm hK1
  obtain ⟨hP, hD⟩ := va_join (wr := []) (w1 := [(h0, .inr (11, [.ref s0, .int 20, .ref s2, .ref s3, .ref s4, .int 0, .int (-1), .ref s7, .ref s8, .ref s9, .ref s10, .ref s11, .ref s12, .ref s13, .ref s14, .ref s15, .ref s16, .ref s17, .int 0])), (s0, .inl (k0, 400, .inl f_10))]) hP hD [0, 1] [] rfl rfl (by decide) (by decide) hk1 hFc hP1 hD1
  generalize H1 = H at hP hS ⊢
  have hP : va_P (dC, dI) classes [(h0, .inr (11, [.ref s0, .int 20, .ref s2, .ref s3, .ref s4, .int 0, .int (-1), .ref s7, .ref s8, .ref s9, .ref s10, .ref s11, .ref s12, .ref s13, .ref s14, .ref s15, .ref s16, .ref s17, .int 0])), (s0, .inl (k0, 400, .inl f_10))] H := hP
  have hD : va_D A [(h0, .inr (11, [.ref s0, .int 20, .ref s2, .ref s3, .ref s4, .int 0, .int (-1), .ref s7, .ref s8, .ref s9, .ref s10, .ref s11, .ref s12, .ref s13, .ref s14, .ref s15, .ref s16, .ref s17, .int 0])), (s0, .inl (k0, 400, .inl f_10))] := hD
  refine lv_aload_n hx hb dX11_feed_39 rfl (lv_at hl 0 rfl) ?_
  refine va_get (D := (dC, dI)) (ci := 11) (v := .int 20) (C := RX11) (T := TX11) (N := 19) hx hb hq inX11 hown hK hP 0 rfl rfl 1 (by decide) (hq _ qw_450) (fun _ h9 => h9) rfl dX11_feed_40 ?_
  refine W.widen (k := 0) (n := 0) (Nat.le_of_ble_eq_true rfl) (Nat.le_of_ble_eq_true rfl) ?_
  exact W.iret (v := 20) hx hb hr (fun t ht hW => ⟨⟨20, (), rfl, rfl, trivial⟩, hS.F ht⟩) hS.2.2 dX11_feed_43
