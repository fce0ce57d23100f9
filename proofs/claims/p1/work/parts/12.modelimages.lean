theorem qw_1794 : (.constantLong RX12 479 (3) : Cond) ∈ wsA := mA (i := 1794) (by decide +kernel) rfl
theorem dX12_back_0 : decode cX12_back 0 = .ok (.iload_n 1, 1) := by decide +kernel
theorem dX12_back_1 : decode cX12_back 1 = .ok (.i2l, 1) := by decide +kernel
theorem dX12_back_2 : decode cX12_back 2 = .ok (.lconst 0, 1) := by decide +kernel
theorem dX12_back_3 : decode cX12_back 3 = .ok (.ldc2_w 479, 3) := by decide +kernel
theorem dX12_back_6 : decode cX12_back 6 = .ok (.invokestatic 118, 3) := by decide +kernel
theorem dX12_back_9 : decode cX12_back 9 = .ok (.ifCond .eq 12, 3) := by decide +kernel
theorem dX12_back_12 : decode cX12_back 12 = .ok (.aload_n 0, 1) := by decide +kernel
theorem dX12_back_13 : decode cX12_back 13 = .ok (.getfield 77, 3) := by decide +kernel
theorem dX12_back_16 : decode cX12_back 16 = .ok (.iload_n 1, 1) := by decide +kernel
theorem dX12_back_17 : decode cX12_back 17 = .ok (.baload, 1) := by decide +kernel
theorem dX12_back_18 : decode cX12_back 18 = .ok (.ifCond .ne 5, 3) := by decide +kernel
theorem dX12_back_21 : decode cX12_back 21 = .ok (.iconst (-1), 1) := by decide +kernel
theorem dX12_back_22 : decode cX12_back 22 = .ok (.ireturn, 1) := by decide +kernel
theorem dX12_image_0 : decode cX12_image 0 = .ok (.iload_n 1, 1) := by decide +kernel
theorem dX12_image_1 : decode cX12_image 1 = .ok (.i2l, 1) := by decide +kernel
theorem dX12_image_2 : decode cX12_image 2 = .ok (.lconst 0, 1) := by decide +kernel
theorem dX12_image_3 : decode cX12_image 3 = .ok (.ldc2_w 479, 3) := by decide +kernel
theorem dX12_image_6 : decode cX12_image 6 = .ok (.invokestatic 118, 3) := by decide +kernel
theorem dX12_image_9 : decode cX12_image 9 = .ok (.ifCond .ne 5, 3) := by decide +kernel
theorem dX12_image_12 : decode cX12_image 12 = .ok (.iconst (-1), 1) := by decide +kernel
theorem dX12_image_13 : decode cX12_image 13 = .ok (.ireturn, 1) := by decide +kernel
theorem dX12_image_14 : decode cX12_image 14 = .ok (.aload_n 0, 1) := by decide +kernel
theorem dX12_image_15 : decode cX12_image 15 = .ok (.getfield 77, 3) := by decide +kernel
theorem dX12_image_18 : decode cX12_image 18 = .ok (.iload_n 1, 1) := by decide +kernel
theorem dX12_image_19 : decode cX12_image 19 = .ok (.iconst 1, 1) := by decide +kernel
theorem dX12_image_20 : decode cX12_image 20 = .ok (.bastore, 1) := by decide +kernel
theorem dX12_image_21 : decode cX12_image 21 = .ok (.aload_n 0, 1) := by decide +kernel
theorem dX12_image_22 : decode cX12_image 22 = .ok (.getfield 71, 3) := by decide +kernel
theorem dX12_image_25 : decode cX12_image 25 = .ok (.iload_n 1, 1) := by decide +kernel
theorem dX12_image_26 : decode cX12_image 26 = .ok (.aload_n 0, 1) := by decide +kernel
theorem dX12_image_27 : decode cX12_image 27 = .ok (.getfield 42, 3) := by decide +kernel
theorem dX12_image_30 : decode cX12_image 30 = .ok (.iastore, 1) := by decide +kernel
theorem dX12_image_31 : decode cX12_image 31 = .ok (.aload_n 0, 1) := by decide +kernel
theorem dX12_image_32 : decode cX12_image 32 = .ok (.getfield 74, 3) := by decide +kernel
theorem dX12_image_35 : decode cX12_image 35 = .ok (.iload_n 1, 1) := by decide +kernel
theorem dX12_image_36 : decode cX12_image 36 = .ok (.aload_n 0, 1) := by decide +kernel
theorem dX12_image_37 : decode cX12_image 37 = .ok (.getfield 456, 3) := by decide +kernel
theorem dX12_image_40 : decode cX12_image 40 = .ok (.iastore, 1) := by decide +kernel
theorem dX12_image_41 : decode cX12_image 41 = .ok (.iconst 0, 1) := by decide +kernel
theorem dX12_image_42 : decode cX12_image 42 = .ok (.istore_n 2, 1) := by decide +kernel
theorem dX12_image_43 : decode cX12_image 43 = .ok (.iload_n 2, 1) := by decide +kernel
theorem dX12_image_44 : decode cX12_image 44 = .ok (.bipush 100, 2) := by decide +kernel
theorem dX12_image_46 : decode cX12_image 46 = .ok (.if_icmp .ge 26, 3) := by decide +kernel
theorem dX12_image_49 : decode cX12_image 49 = .ok (.aload_n 0, 1) := by decide +kernel
theorem dX12_image_50 : decode cX12_image 50 = .ok (.getfield 68, 3) := by decide +kernel
theorem dX12_image_53 : decode cX12_image 53 = .ok (.bipush 100, 2) := by decide +kernel
theorem dX12_image_55 : decode cX12_image 55 = .ok (.iload_n 1, 1) := by decide +kernel
theorem dX12_image_56 : decode cX12_image 56 = .ok (.imul, 1) := by decide +kernel
theorem dX12_image_57 : decode cX12_image 57 = .ok (.iload_n 2, 1) := by decide +kernel
theorem dX12_image_58 : decode cX12_image 58 = .ok (.iadd, 1) := by decide +kernel
theorem dX12_image_59 : decode cX12_image 59 = .ok (.aload_n 0, 1) := by decide +kernel
theorem dX12_image_60 : decode cX12_image 60 = .ok (.getfield 39, 3) := by decide +kernel
theorem dX12_image_63 : decode cX12_image 63 = .ok (.iload_n 2, 1) := by decide +kernel
theorem dX12_image_64 : decode cX12_image 64 = .ok (.iaload, 1) := by decide +kernel
theorem dX12_image_65 : decode cX12_image 65 = .ok (.iastore, 1) := by decide +kernel
theorem dX12_image_66 : decode cX12_image 66 = .ok (.iinc 2 1, 3) := by decide +kernel
theorem dX12_image_69 : decode cX12_image 69 = .ok (.goto (-26), 3) := by decide +kernel
theorem dX12_image_72 : decode cX12_image 72 = .ok (.aload_n 0, 1) := by decide +kernel
theorem dX12_image_73 : decode cX12_image 73 = .ok (.getfield 39, 3) := by decide +kernel
theorem dX12_image_76 : decode cX12_image 76 = .ok (.bipush 10, 2) := by decide +kernel
theorem dX12_image_78 : decode cX12_image 78 = .ok (.iaload, 1) := by decide +kernel
theorem dX12_image_79 : decode cX12_image 79 = .ok (.ireturn, 1) := by decide +kernel
set_option maxHeartbeats 4000000 in
set_option maxRecDepth 100000 in
theorem lp_M_image_0 {p : Program} {l : Launch} {e : Env} {R : Room} {s : State} {m : MethodId} {args : Array Value} {below : List Frame} {meth : Method} {c : Code} {A : Nat → Prop} {cells slots : Nat} {Q : State → Prop} {dC : Nat → ClassId} {dI : Nat → Nat → Nat} {h0 : Nat} {s0 : Nat} {s3 : Nat} {s4 : Nat} {s5 : Nat} {s6 : Nat} {s7 : Nat} {s15 : Nat} {s17 : Nat} {s19 : Nat} {s20 : Nat} {s27 : Nat} {s29 : Nat} {s30 : Nat} {s31 : Nat} {s35 : Nat} {s36 : Nat} {s37 : Nat} {s39 : Nat} {s40 : Nat} {s41 : Nat} {s42 : Nat} {k42 : ClassId} {k40 : ClassId} {k41 : ClassId} {k39 : ClassId} {k20 : ClassId} {g42 : Nat → Int32} {g40 : Nat → Int32} {g41 : Nat → Int32} (hx : p.tables.exec = Jvm.exec) (hb : c.code = cX12_image) (hown : s.vm.findClass RX12 = some m.cls) (hq : ∀ w ∈ wsA, w.before args s = true) (hK : va_K (dC, dI) classes [(k42, .boolean), (k40, .int), (k41, .int), (k39, .int), (k20, .int)] s)
    (hend : ∀ (f : Nat → Int32) (H : Heap) (locs : List Loc) (ls : Array Slot), va_P (dC, dI) classes [(h0, .inr (12, [.ref s0, .int 0, .int 0, .ref s3, .ref s4, .ref s5, .ref s6, .ref s7, .int 0, .int 0, .int 0, .int 0, .int 0, .int 0, .int 0, .ref s15, .int 0, .ref s17, .int 0, .ref s19, .ref s20, .int (-1), .int 0, .int 0, .int 0, .int 0, .int 0, .ref s27, .int 0, .ref s29, .ref s30, .ref s31, .int 0, .int 0, .int 0, .ref s35, .ref s36, .ref s37, .long 0, .ref s39, .ref s40, .ref s41, .ref s42])), (s42, .inl (k42, 4, .inl g42)), (s40, .inl (k40, 4, .inl g40)), (s41, .inl (k41, 4, .inl g41)), (s39, .inl (k39, 400, .inl f)), (s20, .inl (k20, 100, .inl (fun _ => 0)))] H → va_D A [(h0, .inr (12, [.ref s0, .int 0, .int 0, .ref s3, .ref s4, .ref s5, .ref s6, .ref s7, .int 0, .int 0, .int 0, .int 0, .int 0, .int 0, .int 0, .ref s15, .int 0, .ref s17, .int 0, .ref s19, .ref s20, .int (-1), .int 0, .int 0, .int 0, .int 0, .int 0, .ref s27, .int 0, .ref s29, .ref s30, .ref s31, .int 0, .int 0, .int 0, .ref s35, .ref s36, .ref s37, .long 0, .ref s39, .ref s40, .ref s41, .ref s42])), (s42, .inl (k42, 4, .inl g42)), (s40, .inl (k40, 4, .inl g40)), (s41, .inl (k41, 4, .inl g41)), (s39, .inl (k39, 400, .inl f)), (s20, .inl (k20, 100, .inl (fun _ => 0)))] → va_S A s.heap H locs → lv_has ls 3 [(2, .int 100), (0, .ref h0), (1, .int 0)] → W p l e R s m args below meth c H locs cells slots Q (F0 m 72 ls [])) :
    ∀ (n k : Nat), k + n = 100 → ∀ (x : Int32), x = nI k → ∀ (f : Nat → Int32) (H : Heap) (locs : List Loc) (ls : Array Slot), va_P (dC, dI) classes [(h0, .inr (12, [.ref s0, .int 0, .int 0, .ref s3, .ref s4, .ref s5, .ref s6, .ref s7, .int 0, .int 0, .int 0, .int 0, .int 0, .int 0, .int 0, .ref s15, .int 0, .ref s17, .int 0, .ref s19, .ref s20, .int (-1), .int 0, .int 0, .int 0, .int 0, .int 0, .ref s27, .int 0, .ref s29, .ref s30, .ref s31, .int 0, .int 0, .int 0, .ref s35, .ref s36, .ref s37, .long 0, .ref s39, .ref s40, .ref s41, .ref s42])), (s42, .inl (k42, 4, .inl g42)), (s40, .inl (k40, 4, .inl g40)), (s41, .inl (k41, 4, .inl g41)), (s39, .inl (k39, 400, .inl f)), (s20, .inl (k20, 100, .inl (fun _ => 0)))] H → va_D A [(h0, .inr (12, [.ref s0, .int 0, .int 0, .ref s3, .ref s4, .ref s5, .ref s6, .ref s7, .int 0, .int 0, .int 0, .int 0, .int 0, .int 0, .int 0, .ref s15, .int 0, .ref s17, .int 0, .ref s19, .ref s20, .int (-1), .int 0, .int 0, .int 0, .int 0, .int 0, .ref s27, .int 0, .ref s29, .ref s30, .ref s31, .int 0, .int 0, .int 0, .ref s35, .ref s36, .ref s37, .long 0, .ref s39, .ref s40, .ref s41, .ref s42])), (s42, .inl (k42, 4, .inl g42)), (s40, .inl (k40, 4, .inl g40)), (s41, .inl (k41, 4, .inl g41)), (s39, .inl (k39, 400, .inl f)), (s20, .inl (k20, 100, .inl (fun _ => 0)))] → va_S A s.heap H locs → lv_has ls 3 [(2, .int x), (0, .ref h0), (1, .int 0)] → W p l e R s m args below meth c H locs cells slots Q (F0 m 43 ls []) := by
  intro n
  induction n with
  | zero =>
    intro k hk x ex f H locs ls hP hD hS hl
    obtain rfl : k = 100 := by omega
    obtain rfl : x = 100 := ex.trans (by decide)
    refine lv_iload_n hx hb dX12_image_43 rfl (lv_at hl 0 rfl) ?_
    refine lv_bipush (v := 100) hx hb dX12_image_44 (by decide) ?_
    refine lv_icmp_ge (tgt := 72) hx hb dX12_image_46 (by decide) (fun _ => ?_) (fun c9 => absurd c9 (by decide))
    exact hend _ _ _ _ hP hD hS hl
  | succ n ih =>
    intro k hk x ex f H locs ls hP hD hS hl
    have hk2 : k < 100 := by omega
    refine lv_iload_n hx hb dX12_image_43 rfl (lv_at hl 0 rfl) ?_
    refine lv_bipush (v := 100) hx hb dX12_image_44 (by decide) ?_
    refine lv_icmp_ge (tgt := 72) hx hb dX12_image_46 (by decide) (fun c9 => by rw [ex] at c9; exact absurd c9 (nI_ge (a := k) (b := 100) hk2 (by decide))) (fun _ => ?_)
    refine lv_aload_n hx hb dX12_image_49 rfl (lv_at hl 1 rfl) ?_
    refine va_get (D := (dC, dI)) (ci := 12) (v := .ref s39) (C := RX12) (T := TX12) (N := 43) hx hb hq inX12 hown hK hP 0 rfl rfl 39 (by decide) (hq _ qw_1199) (fun _ h9 => h9) rfl dX12_image_50 ?_
    refine lv_bipush (v := 100) hx hb dX12_image_53 (by decide) ?_
    refine lv_iload_n hx hb dX12_image_55 rfl (lv_at hl 2 rfl) ?_
    refine lv_imul hx hb dX12_image_56 ?_
    refine lv_topi (fun y_1 ey_1 => ?_)
    obtain rfl : y_1 = 0 := ey_1.trans (by decide)
    refine lv_iload_n hx hb dX12_image_57 rfl (lv_at hl 0 rfl) ?_
    refine lv_iadd hx hb dX12_image_58 ?_
    refine lv_topi (fun y_2 ey_2 => ?_)
    refine lv_aload_n hx hb dX12_image_59 rfl (lv_at hl 1 rfl) ?_
    refine va_get (D := (dC, dI)) (ci := 12) (v := .ref s20) (C := RX12) (T := TX12) (N := 43) hx hb hq inX12 hown hK hP 0 rfl rfl 20 (by decide) (hq _ qw_1180) (fun _ h9 => h9) rfl dX12_image_60 ?_
    refine lv_iload_n hx hb dX12_image_63 rfl (lv_at hl 0 rfl) ?_
    refine va_iald hx hb hK hP 5 4 rfl rfl (by rw [ex]; exact vp_in_nI hk2 (by omega)) dX12_image_64 ?_
    refine lv_topi (fun y_3 ey_3 => ?_)
    obtain rfl : y_3 = 0 := ey_3.trans (rfl)
    refine va_iast hx hb hK hP hD hS 4 3 rfl rfl (by rw [ey_2, ex, show ((0 : Int32) + nI k) = nI (0 + k) from nI_add 0 k]; exact vp_in_nI (by omega) (by omega)) dX12_image_65 (fun H locs hP hD hS => ?_)
    generalize upd f (Int32.toNatClampNeg y_2) 0 = f_4 at hP hD
    have hP : va_P (dC, dI) classes [(h0, .inr (12, [.ref s0, .int 0, .int 0, .ref s3, .ref s4, .ref s5, .ref s6, .ref s7, .int 0, .int 0, .int 0, .int 0, .int 0, .int 0, .int 0, .ref s15, .int 0, .ref s17, .int 0, .ref s19, .ref s20, .int (-1), .int 0, .int 0, .int 0, .int 0, .int 0, .ref s27, .int 0, .ref s29, .ref s30, .ref s31, .int 0, .int 0, .int 0, .ref s35, .ref s36, .ref s37, .long 0, .ref s39, .ref s40, .ref s41, .ref s42])), (s42, .inl (k42, 4, .inl g42)), (s40, .inl (k40, 4, .inl g40)), (s41, .inl (k41, 4, .inl g41)), (s39, .inl (k39, 400, .inl f_4)), (s20, .inl (k20, 100, .inl (fun _ => 0)))] H := hP
    have hD : va_D A [(h0, .inr (12, [.ref s0, .int 0, .int 0, .ref s3, .ref s4, .ref s5, .ref s6, .ref s7, .int 0, .int 0, .int 0, .int 0, .int 0, .int 0, .int 0, .ref s15, .int 0, .ref s17, .int 0, .ref s19, .ref s20, .int (-1), .int 0, .int 0, .int 0, .int 0, .int 0, .ref s27, .int 0, .ref s29, .ref s30, .ref s31, .int 0, .int 0, .int 0, .ref s35, .ref s36, .ref s37, .long 0, .ref s39, .ref s40, .ref s41, .ref s42])), (s42, .inl (k42, 4, .inl g42)), (s40, .inl (k40, 4, .inl g40)), (s41, .inl (k41, 4, .inl g41)), (s39, .inl (k39, 400, .inl f_4)), (s20, .inl (k20, 100, .inl (fun _ => 0)))] := hD
    obtain ⟨y_5, ey_5⟩ : ∃ y : Int32, y = x + 1 := ⟨_, rfl⟩
    refine lv_iinc (v := y_5) (lv' := [(2, .int y_5), (0, .ref h0), (1, .int 0)]) hx hb dX12_image_66 hl (k := 0) rfl (by rw [ey_5]; rfl) (by decide) rfl (fun ls hl => ?_)
    refine lv_goto (tgt := 43) hx hb dX12_image_69 (by decide) ?_
    exact ih (k + 1) (by omega) y_5 (by rw [ey_5, ex]; exact nI_1 k) _ _ _ _ hP hD hS (lv_sub hl [0, 1, 2] rfl)

set_option maxHeartbeats 4000000 in
set_option maxRecDepth 100000 in
theorem lp_M_image_1 {p : Program} {l : Launch} {e : Env} {R : Room} {s : State} {m : MethodId} {args : Array Value} {below : List Frame} {meth : Method} {c : Code} {A : Nat → Prop} {cells slots : Nat} {Q : State → Prop} {dC : Nat → ClassId} {dI : Nat → Nat → Nat} {h0 : Nat} {s0 : Nat} {s3 : Nat} {s4 : Nat} {s5 : Nat} {s6 : Nat} {s7 : Nat} {s15 : Nat} {s17 : Nat} {s19 : Nat} {s20 : Nat} {s27 : Nat} {s29 : Nat} {s30 : Nat} {s31 : Nat} {s35 : Nat} {s36 : Nat} {s37 : Nat} {s39 : Nat} {s40 : Nat} {s41 : Nat} {s42 : Nat} {k42 : ClassId} {k40 : ClassId} {k41 : ClassId} {k39 : ClassId} {k20 : ClassId} {g42 : Nat → Int32} {g40 : Nat → Int32} {g41 : Nat → Int32} (hx : p.tables.exec = Jvm.exec) (hb : c.code = cX12_image) (hown : s.vm.findClass RX12 = some m.cls) (hq : ∀ w ∈ wsA, w.before args s = true) (hK : va_K (dC, dI) classes [(k42, .boolean), (k40, .int), (k41, .int), (k39, .int), (k20, .int)] s)
    (hend : ∀ (f : Nat → Int32) (H : Heap) (locs : List Loc) (ls : Array Slot), va_P (dC, dI) classes [(h0, .inr (12, [.ref s0, .int 0, .int 0, .ref s3, .ref s4, .ref s5, .ref s6, .ref s7, .int 0, .int 0, .int 0, .int 0, .int 0, .int 0, .int 0, .ref s15, .int 0, .ref s17, .int 0, .ref s19, .ref s20, .int (-1), .int 0, .int 0, .int 0, .int 0, .int 0, .ref s27, .int 0, .ref s29, .ref s30, .ref s31, .int 0, .int 0, .int 0, .ref s35, .ref s36, .ref s37, .long 0, .ref s39, .ref s40, .ref s41, .ref s42])), (s42, .inl (k42, 4, .inl g42)), (s40, .inl (k40, 4, .inl g40)), (s41, .inl (k41, 4, .inl g41)), (s39, .inl (k39, 400, .inl f)), (s20, .inl (k20, 100, .inl (fun _ => 0)))] H → va_D A [(h0, .inr (12, [.ref s0, .int 0, .int 0, .ref s3, .ref s4, .ref s5, .ref s6, .ref s7, .int 0, .int 0, .int 0, .int 0, .int 0, .int 0, .int 0, .ref s15, .int 0, .ref s17, .int 0, .ref s19, .ref s20, .int (-1), .int 0, .int 0, .int 0, .int 0, .int 0, .ref s27, .int 0, .ref s29, .ref s30, .ref s31, .int 0, .int 0, .int 0, .ref s35, .ref s36, .ref s37, .long 0, .ref s39, .ref s40, .ref s41, .ref s42])), (s42, .inl (k42, 4, .inl g42)), (s40, .inl (k40, 4, .inl g40)), (s41, .inl (k41, 4, .inl g41)), (s39, .inl (k39, 400, .inl f)), (s20, .inl (k20, 100, .inl (fun _ => 0)))] → va_S A s.heap H locs → lv_has ls 3 [(2, .int 100), (0, .ref h0), (1, .int 1)] → W p l e R s m args below meth c H locs cells slots Q (F0 m 72 ls [])) :
    ∀ (n k : Nat), k + n = 100 → ∀ (x : Int32), x = nI k → ∀ (f : Nat → Int32) (H : Heap) (locs : List Loc) (ls : Array Slot), va_P (dC, dI) classes [(h0, .inr (12, [.ref s0, .int 0, .int 0, .ref s3, .ref s4, .ref s5, .ref s6, .ref s7, .int 0, .int 0, .int 0, .int 0, .int 0, .int 0, .int 0, .ref s15, .int 0, .ref s17, .int 0, .ref s19, .ref s20, .int (-1), .int 0, .int 0, .int 0, .int 0, .int 0, .ref s27, .int 0, .ref s29, .ref s30, .ref s31, .int 0, .int 0, .int 0, .ref s35, .ref s36, .ref s37, .long 0, .ref s39, .ref s40, .ref s41, .ref s42])), (s42, .inl (k42, 4, .inl g42)), (s40, .inl (k40, 4, .inl g40)), (s41, .inl (k41, 4, .inl g41)), (s39, .inl (k39, 400, .inl f)), (s20, .inl (k20, 100, .inl (fun _ => 0)))] H → va_D A [(h0, .inr (12, [.ref s0, .int 0, .int 0, .ref s3, .ref s4, .ref s5, .ref s6, .ref s7, .int 0, .int 0, .int 0, .int 0, .int 0, .int 0, .int 0, .ref s15, .int 0, .ref s17, .int 0, .ref s19, .ref s20, .int (-1), .int 0, .int 0, .int 0, .int 0, .int 0, .ref s27, .int 0, .ref s29, .ref s30, .ref s31, .int 0, .int 0, .int 0, .ref s35, .ref s36, .ref s37, .long 0, .ref s39, .ref s40, .ref s41, .ref s42])), (s42, .inl (k42, 4, .inl g42)), (s40, .inl (k40, 4, .inl g40)), (s41, .inl (k41, 4, .inl g41)), (s39, .inl (k39, 400, .inl f)), (s20, .inl (k20, 100, .inl (fun _ => 0)))] → va_S A s.heap H locs → lv_has ls 3 [(2, .int x), (0, .ref h0), (1, .int 1)] → W p l e R s m args below meth c H locs cells slots Q (F0 m 43 ls []) := by
  intro n
  induction n with
  | zero =>
    intro k hk x ex f H locs ls hP hD hS hl
    obtain rfl : k = 100 := by omega
    obtain rfl : x = 100 := ex.trans (by decide)
    refine lv_iload_n hx hb dX12_image_43 rfl (lv_at hl 0 rfl) ?_
    refine lv_bipush (v := 100) hx hb dX12_image_44 (by decide) ?_
    refine lv_icmp_ge (tgt := 72) hx hb dX12_image_46 (by decide) (fun _ => ?_) (fun c9 => absurd c9 (by decide))
    exact hend _ _ _ _ hP hD hS hl
  | succ n ih =>
    intro k hk x ex f H locs ls hP hD hS hl
    have hk2 : k < 100 := by omega
    refine lv_iload_n hx hb dX12_image_43 rfl (lv_at hl 0 rfl) ?_
    refine lv_bipush (v := 100) hx hb dX12_image_44 (by decide) ?_
    refine lv_icmp_ge (tgt := 72) hx hb dX12_image_46 (by decide) (fun c9 => by rw [ex] at c9; exact absurd c9 (nI_ge (a := k) (b := 100) hk2 (by decide))) (fun _ => ?_)
    refine lv_aload_n hx hb dX12_image_49 rfl (lv_at hl 1 rfl) ?_
    refine va_get (D := (dC, dI)) (ci := 12) (v := .ref s39) (C := RX12) (T := TX12) (N := 43) hx hb hq inX12 hown hK hP 0 rfl rfl 39 (by decide) (hq _ qw_1199) (fun _ h9 => h9) rfl dX12_image_50 ?_
    refine lv_bipush (v := 100) hx hb dX12_image_53 (by decide) ?_
    refine lv_iload_n hx hb dX12_image_55 rfl (lv_at hl 2 rfl) ?_
    refine lv_imul hx hb dX12_image_56 ?_
    refine lv_topi (fun y_1 ey_1 => ?_)
    obtain rfl : y_1 = 100 := ey_1.trans (by decide)
    refine lv_iload_n hx hb dX12_image_57 rfl (lv_at hl 0 rfl) ?_
    refine lv_iadd hx hb dX12_image_58 ?_
    refine lv_topi (fun y_2 ey_2 => ?_)
    refine lv_aload_n hx hb dX12_image_59 rfl (lv_at hl 1 rfl) ?_
    refine va_get (D := (dC, dI)) (ci := 12) (v := .ref s20) (C := RX12) (T := TX12) (N := 43) hx hb hq inX12 hown hK hP 0 rfl rfl 20 (by decide) (hq _ qw_1180) (fun _ h9 => h9) rfl dX12_image_60 ?_
    refine lv_iload_n hx hb dX12_image_63 rfl (lv_at hl 0 rfl) ?_
    refine va_iald hx hb hK hP 5 4 rfl rfl (by rw [ex]; exact vp_in_nI hk2 (by omega)) dX12_image_64 ?_
    refine lv_topi (fun y_3 ey_3 => ?_)
    obtain rfl : y_3 = 0 := ey_3.trans (rfl)
    refine va_iast hx hb hK hP hD hS 4 3 rfl rfl (by rw [ey_2, ex, show ((100 : Int32) + nI k) = nI (100 + k) from nI_add 100 k]; exact vp_in_nI (by omega) (by omega)) dX12_image_65 (fun H locs hP hD hS => ?_)
    generalize upd f (Int32.toNatClampNeg y_2) 0 = f_4 at hP hD
    have hP : va_P (dC, dI) classes [(h0, .inr (12, [.ref s0, .int 0, .int 0, .ref s3, .ref s4, .ref s5, .ref s6, .ref s7, .int 0, .int 0, .int 0, .int 0, .int 0, .int 0, .int 0, .ref s15, .int 0, .ref s17, .int 0, .ref s19, .ref s20, .int (-1), .int 0, .int 0, .int 0, .int 0, .int 0, .ref s27, .int 0, .ref s29, .ref s30, .ref s31, .int 0, .int 0, .int 0, .ref s35, .ref s36, .ref s37, .long 0, .ref s39, .ref s40, .ref s41, .ref s42])), (s42, .inl (k42, 4, .inl g42)), (s40, .inl (k40, 4, .inl g40)), (s41, .inl (k41, 4, .inl g41)), (s39, .inl (k39, 400, .inl f_4)), (s20, .inl (k20, 100, .inl (fun _ => 0)))] H := hP
    have hD : va_D A [(h0, .inr (12, [.ref s0, .int 0, .int 0, .ref s3, .ref s4, .ref s5, .ref s6, .ref s7, .int 0, .int 0, .int 0, .int 0, .int 0, .int 0, .int 0, .ref s15, .int 0, .ref s17, .int 0, .ref s19, .ref s20, .int (-1), .int 0, .int 0, .int 0, .int 0, .int 0, .ref s27, .int 0, .ref s29, .ref s30, .ref s31, .int 0, .int 0, .int 0, .ref s35, .ref s36, .ref s37, .long 0, .ref s39, .ref s40, .ref s41, .ref s42])), (s42, .inl (k42, 4, .inl g42)), (s40, .inl (k40, 4, .inl g40)), (s41, .inl (k41, 4, .inl g41)), (s39, .inl (k39, 400, .inl f_4)), (s20, .inl (k20, 100, .inl (fun _ => 0)))] := hD
    obtain ⟨y_5, ey_5⟩ : ∃ y : Int32, y = x + 1 := ⟨_, rfl⟩
    refine lv_iinc (v := y_5) (lv' := [(2, .int y_5), (0, .ref h0), (1, .int 1)]) hx hb dX12_image_66 hl (k := 0) rfl (by rw [ey_5]; rfl) (by decide) rfl (fun ls hl => ?_)
    refine lv_goto (tgt := 43) hx hb dX12_image_69 (by decide) ?_
    exact ih (k + 1) (by omega) y_5 (by rw [ey_5, ex]; exact nI_1 k) _ _ _ _ hP hD hS (lv_sub hl [0, 1, 2] rfl)

set_option maxHeartbeats 4000000 in
set_option maxRecDepth 100000 in
theorem lp_M_image_2 {p : Program} {l : Launch} {e : Env} {R : Room} {s : State} {m : MethodId} {args : Array Value} {below : List Frame} {meth : Method} {c : Code} {A : Nat → Prop} {cells slots : Nat} {Q : State → Prop} {dC : Nat → ClassId} {dI : Nat → Nat → Nat} {h0 : Nat} {s0 : Nat} {s3 : Nat} {s4 : Nat} {s5 : Nat} {s6 : Nat} {s7 : Nat} {s15 : Nat} {s17 : Nat} {s19 : Nat} {s20 : Nat} {s27 : Nat} {s29 : Nat} {s30 : Nat} {s31 : Nat} {s35 : Nat} {s36 : Nat} {s37 : Nat} {s39 : Nat} {s40 : Nat} {s41 : Nat} {s42 : Nat} {k42 : ClassId} {k40 : ClassId} {k41 : ClassId} {k39 : ClassId} {k20 : ClassId} {g42 : Nat → Int32} {g40 : Nat → Int32} {g41 : Nat → Int32} (hx : p.tables.exec = Jvm.exec) (hb : c.code = cX12_image) (hown : s.vm.findClass RX12 = some m.cls) (hq : ∀ w ∈ wsA, w.before args s = true) (hK : va_K (dC, dI) classes [(k42, .boolean), (k40, .int), (k41, .int), (k39, .int), (k20, .int)] s)
    (hend : ∀ (f : Nat → Int32) (H : Heap) (locs : List Loc) (ls : Array Slot), va_P (dC, dI) classes [(h0, .inr (12, [.ref s0, .int 0, .int 0, .ref s3, .ref s4, .ref s5, .ref s6, .ref s7, .int 0, .int 0, .int 0, .int 0, .int 0, .int 0, .int 0, .ref s15, .int 0, .ref s17, .int 0, .ref s19, .ref s20, .int (-1), .int 0, .int 0, .int 0, .int 0, .int 0, .ref s27, .int 0, .ref s29, .ref s30, .ref s31, .int 0, .int 0, .int 0, .ref s35, .ref s36, .ref s37, .long 0, .ref s39, .ref s40, .ref s41, .ref s42])), (s42, .inl (k42, 4, .inl g42)), (s40, .inl (k40, 4, .inl g40)), (s41, .inl (k41, 4, .inl g41)), (s39, .inl (k39, 400, .inl f)), (s20, .inl (k20, 100, .inl (fun _ => 0)))] H → va_D A [(h0, .inr (12, [.ref s0, .int 0, .int 0, .ref s3, .ref s4, .ref s5, .ref s6, .ref s7, .int 0, .int 0, .int 0, .int 0, .int 0, .int 0, .int 0, .ref s15, .int 0, .ref s17, .int 0, .ref s19, .ref s20, .int (-1), .int 0, .int 0, .int 0, .int 0, .int 0, .ref s27, .int 0, .ref s29, .ref s30, .ref s31, .int 0, .int 0, .int 0, .ref s35, .ref s36, .ref s37, .long 0, .ref s39, .ref s40, .ref s41, .ref s42])), (s42, .inl (k42, 4, .inl g42)), (s40, .inl (k40, 4, .inl g40)), (s41, .inl (k41, 4, .inl g41)), (s39, .inl (k39, 400, .inl f)), (s20, .inl (k20, 100, .inl (fun _ => 0)))] → va_S A s.heap H locs → lv_has ls 3 [(2, .int 100), (0, .ref h0), (1, .int 2)] → W p l e R s m args below meth c H locs cells slots Q (F0 m 72 ls [])) :
    ∀ (n k : Nat), k + n = 100 → ∀ (x : Int32), x = nI k → ∀ (f : Nat → Int32) (H : Heap) (locs : List Loc) (ls : Array Slot), va_P (dC, dI) classes [(h0, .inr (12, [.ref s0, .int 0, .int 0, .ref s3, .ref s4, .ref s5, .ref s6, .ref s7, .int 0, .int 0, .int 0, .int 0, .int 0, .int 0, .int 0, .ref s15, .int 0, .ref s17, .int 0, .ref s19, .ref s20, .int (-1), .int 0, .int 0, .int 0, .int 0, .int 0, .ref s27, .int 0, .ref s29, .ref s30, .ref s31, .int 0, .int 0, .int 0, .ref s35, .ref s36, .ref s37, .long 0, .ref s39, .ref s40, .ref s41, .ref s42])), (s42, .inl (k42, 4, .inl g42)), (s40, .inl (k40, 4, .inl g40)), (s41, .inl (k41, 4, .inl g41)), (s39, .inl (k39, 400, .inl f)), (s20, .inl (k20, 100, .inl (fun _ => 0)))] H → va_D A [(h0, .inr (12, [.ref s0, .int 0, .int 0, .ref s3, .ref s4, .ref s5, .ref s6, .ref s7, .int 0, .int 0, .int 0, .int 0, .int 0, .int 0, .int 0, .ref s15, .int 0, .ref s17, .int 0, .ref s19, .ref s20, .int (-1), .int 0, .int 0, .int 0, .int 0, .int 0, .ref s27, .int 0, .ref s29, .ref s30, .ref s31, .int 0, .int 0, .int 0, .ref s35, .ref s36, .ref s37, .long 0, .ref s39, .ref s40, .ref s41, .ref s42])), (s42, .inl (k42, 4, .inl g42)), (s40, .inl (k40, 4, .inl g40)), (s41, .inl (k41, 4, .inl g41)), (s39, .inl (k39, 400, .inl f)), (s20, .inl (k20, 100, .inl (fun _ => 0)))] → va_S A s.heap H locs → lv_has ls 3 [(2, .int x), (0, .ref h0), (1, .int 2)] → W p l e R s m args below meth c H locs cells slots Q (F0 m 43 ls []) := by
  intro n
  induction n with
  | zero =>
    intro k hk x ex f H locs ls hP hD hS hl
    obtain rfl : k = 100 := by omega
    obtain rfl : x = 100 := ex.trans (by decide)
    refine lv_iload_n hx hb dX12_image_43 rfl (lv_at hl 0 rfl) ?_
    refine lv_bipush (v := 100) hx hb dX12_image_44 (by decide) ?_
    refine lv_icmp_ge (tgt := 72) hx hb dX12_image_46 (by decide) (fun _ => ?_) (fun c9 => absurd c9 (by decide))
    exact hend _ _ _ _ hP hD hS hl
  | succ n ih =>
    intro k hk x ex f H locs ls hP hD hS hl
    have hk2 : k < 100 := by omega
    refine lv_iload_n hx hb dX12_image_43 rfl (lv_at hl 0 rfl) ?_
    refine lv_bipush (v := 100) hx hb dX12_image_44 (by decide) ?_
    refine lv_icmp_ge (tgt := 72) hx hb dX12_image_46 (by decide) (fun c9 => by rw [ex] at c9; exact absurd c9 (nI_ge (a := k) (b := 100) hk2 (by decide))) (fun _ => ?_)
    refine lv_aload_n hx hb dX12_image_49 rfl (lv_at hl 1 rfl) ?_
    refine va_get (D := (dC, dI)) (ci := 12) (v := .ref s39) (C := RX12) (T := TX12) (N := 43) hx hb hq inX12 hown hK hP 0 rfl rfl 39 (by decide) (hq _ qw_1199) (fun _ h9 => h9) rfl dX12_image_50 ?_
    refine lv_bipush (v := 100) hx hb dX12_image_53 (by decide) ?_
    refine lv_iload_n hx hb dX12_image_55 rfl (lv_at hl 2 rfl) ?_
    refine lv_imul hx hb dX12_image_56 ?_
    refine lv_topi (fun y_1 ey_1 => ?_)
    obtain rfl : y_1 = 200 := ey_1.trans (by decide)
    refine lv_iload_n hx hb dX12_image_57 rfl (lv_at hl 0 rfl) ?_
    refine lv_iadd hx hb dX12_image_58 ?_
    refine lv_topi (fun y_2 ey_2 => ?_)
    refine lv_aload_n hx hb dX12_image_59 rfl (lv_at hl 1 rfl) ?_
    refine va_get (D := (dC, dI)) (ci := 12) (v := .ref s20) (C := RX12) (T := TX12) (N := 43) hx hb hq inX12 hown hK hP 0 rfl rfl 20 (by decide) (hq _ qw_1180) (fun _ h9 => h9) rfl dX12_image_60 ?_
    refine lv_iload_n hx hb dX12_image_63 rfl (lv_at hl 0 rfl) ?_
    refine va_iald hx hb hK hP 5 4 rfl rfl (by rw [ex]; exact vp_in_nI hk2 (by omega)) dX12_image_64 ?_
    refine lv_topi (fun y_3 ey_3 => ?_)
    obtain rfl : y_3 = 0 := ey_3.trans (rfl)
    refine va_iast hx hb hK hP hD hS 4 3 rfl rfl (by rw [ey_2, ex, show ((200 : Int32) + nI k) = nI (200 + k) from nI_add 200 k]; exact vp_in_nI (by omega) (by omega)) dX12_image_65 (fun H locs hP hD hS => ?_)
    generalize upd f (Int32.toNatClampNeg y_2) 0 = f_4 at hP hD
    have hP : va_P (dC, dI) classes [(h0, .inr (12, [.ref s0, .int 0, .int 0, .ref s3, .ref s4, .ref s5, .ref s6, .ref s7, .int 0, .int 0, .int 0, .int 0, .int 0, .int 0, .int 0, .ref s15, .int 0, .ref s17, .int 0, .ref s19, .ref s20, .int (-1), .int 0, .int 0, .int 0, .int 0, .int 0, .ref s27, .int 0, .ref s29, .ref s30, .ref s31, .int 0, .int 0, .int 0, .ref s35, .ref s36, .ref s37, .long 0, .ref s39, .ref s40, .ref s41, .ref s42])), (s42, .inl (k42, 4, .inl g42)), (s40, .inl (k40, 4, .inl g40)), (s41, .inl (k41, 4, .inl g41)), (s39, .inl (k39, 400, .inl f_4)), (s20, .inl (k20, 100, .inl (fun _ => 0)))] H := hP
    have hD : va_D A [(h0, .inr (12, [.ref s0, .int 0, .int 0, .ref s3, .ref s4, .ref s5, .ref s6, .ref s7, .int 0, .int 0, .int 0, .int 0, .int 0, .int 0, .int 0, .ref s15, .int 0, .ref s17, .int 0, .ref s19, .ref s20, .int (-1), .int 0, .int 0, .int 0, .int 0, .int 0, .ref s27, .int 0, .ref s29, .ref s30, .ref s31, .int 0, .int 0, .int 0, .ref s35, .ref s36, .ref s37, .long 0, .ref s39, .ref s40, .ref s41, .ref s42])), (s42, .inl (k42, 4, .inl g42)), (s40, .inl (k40, 4, .inl g40)), (s41, .inl (k41, 4, .inl g41)), (s39, .inl (k39, 400, .inl f_4)), (s20, .inl (k20, 100, .inl (fun _ => 0)))] := hD
    obtain ⟨y_5, ey_5⟩ : ∃ y : Int32, y = x + 1 := ⟨_, rfl⟩
    refine lv_iinc (v := y_5) (lv' := [(2, .int y_5), (0, .ref h0), (1, .int 2)]) hx hb dX12_image_66 hl (k := 0) rfl (by rw [ey_5]; rfl) (by decide) rfl (fun ls hl => ?_)
    refine lv_goto (tgt := 43) hx hb dX12_image_69 (by decide) ?_
    exact ih (k + 1) (by omega) y_5 (by rw [ey_5, ex]; exact nI_1 k) _ _ _ _ hP hD hS (lv_sub hl [0, 1, 2] rfl)

set_option maxHeartbeats 4000000 in
set_option maxRecDepth 100000 in
theorem lp_M_image_3 {p : Program} {l : Launch} {e : Env} {R : Room} {s : State} {m : MethodId} {args : Array Value} {below : List Frame} {meth : Method} {c : Code} {A : Nat → Prop} {cells slots : Nat} {Q : State → Prop} {dC : Nat → ClassId} {dI : Nat → Nat → Nat} {h0 : Nat} {s0 : Nat} {s3 : Nat} {s4 : Nat} {s5 : Nat} {s6 : Nat} {s7 : Nat} {s15 : Nat} {s17 : Nat} {s19 : Nat} {s20 : Nat} {s27 : Nat} {s29 : Nat} {s30 : Nat} {s31 : Nat} {s35 : Nat} {s36 : Nat} {s37 : Nat} {s39 : Nat} {s40 : Nat} {s41 : Nat} {s42 : Nat} {k42 : ClassId} {k40 : ClassId} {k41 : ClassId} {k39 : ClassId} {k20 : ClassId} {g42 : Nat → Int32} {g40 : Nat → Int32} {g41 : Nat → Int32} (hx : p.tables.exec = Jvm.exec) (hb : c.code = cX12_image) (hown : s.vm.findClass RX12 = some m.cls) (hq : ∀ w ∈ wsA, w.before args s = true) (hK : va_K (dC, dI) classes [(k42, .boolean), (k40, .int), (k41, .int), (k39, .int), (k20, .int)] s)
    (hend : ∀ (f : Nat → Int32) (H : Heap) (locs : List Loc) (ls : Array Slot), va_P (dC, dI) classes [(h0, .inr (12, [.ref s0, .int 0, .int 0, .ref s3, .ref s4, .ref s5, .ref s6, .ref s7, .int 0, .int 0, .int 0, .int 0, .int 0, .int 0, .int 0, .ref s15, .int 0, .ref s17, .int 0, .ref s19, .ref s20, .int (-1), .int 0, .int 0, .int 0, .int 0, .int 0, .ref s27, .int 0, .ref s29, .ref s30, .ref s31, .int 0, .int 0, .int 0, .ref s35, .ref s36, .ref s37, .long 0, .ref s39, .ref s40, .ref s41, .ref s42])), (s42, .inl (k42, 4, .inl g42)), (s40, .inl (k40, 4, .inl g40)), (s41, .inl (k41, 4, .inl g41)), (s39, .inl (k39, 400, .inl f)), (s20, .inl (k20, 100, .inl (fun _ => 0)))] H → va_D A [(h0, .inr (12, [.ref s0, .int 0, .int 0, .ref s3, .ref s4, .ref s5, .ref s6, .ref s7, .int 0, .int 0, .int 0, .int 0, .int 0, .int 0, .int 0, .ref s15, .int 0, .ref s17, .int 0, .ref s19, .ref s20, .int (-1), .int 0, .int 0, .int 0, .int 0, .int 0, .ref s27, .int 0, .ref s29, .ref s30, .ref s31, .int 0, .int 0, .int 0, .ref s35, .ref s36, .ref s37, .long 0, .ref s39, .ref s40, .ref s41, .ref s42])), (s42, .inl (k42, 4, .inl g42)), (s40, .inl (k40, 4, .inl g40)), (s41, .inl (k41, 4, .inl g41)), (s39, .inl (k39, 400, .inl f)), (s20, .inl (k20, 100, .inl (fun _ => 0)))] → va_S A s.heap H locs → lv_has ls 3 [(2, .int 100), (0, .ref h0), (1, .int 3)] → W p l e R s m args below meth c H locs cells slots Q (F0 m 72 ls [])) :
    ∀ (n k : Nat), k + n = 100 → ∀ (x : Int32), x = nI k → ∀ (f : Nat → Int32) (H : Heap) (locs : List Loc) (ls : Array Slot), va_P (dC, dI) classes [(h0, .inr (12, [.ref s0, .int 0, .int 0, .ref s3, .ref s4, .ref s5, .ref s6, .ref s7, .int 0, .int 0, .int 0, .int 0, .int 0, .int 0, .int 0, .ref s15, .int 0, .ref s17, .int 0, .ref s19, .ref s20, .int (-1), .int 0, .int 0, .int 0, .int 0, .int 0, .ref s27, .int 0, .ref s29, .ref s30, .ref s31, .int 0, .int 0, .int 0, .ref s35, .ref s36, .ref s37, .long 0, .ref s39, .ref s40, .ref s41, .ref s42])), (s42, .inl (k42, 4, .inl g42)), (s40, .inl (k40, 4, .inl g40)), (s41, .inl (k41, 4, .inl g41)), (s39, .inl (k39, 400, .inl f)), (s20, .inl (k20, 100, .inl (fun _ => 0)))] H → va_D A [(h0, .inr (12, [.ref s0, .int 0, .int 0, .ref s3, .ref s4, .ref s5, .ref s6, .ref s7, .int 0, .int 0, .int 0, .int 0, .int 0, .int 0, .int 0, .ref s15, .int 0, .ref s17, .int 0, .ref s19, .ref s20, .int (-1), .int 0, .int 0, .int 0, .int 0, .int 0, .ref s27, .int 0, .ref s29, .ref s30, .ref s31, .int 0, .int 0, .int 0, .ref s35, .ref s36, .ref s37, .long 0, .ref s39, .ref s40, .ref s41, .ref s42])), (s42, .inl (k42, 4, .inl g42)), (s40, .inl (k40, 4, .inl g40)), (s41, .inl (k41, 4, .inl g41)), (s39, .inl (k39, 400, .inl f)), (s20, .inl (k20, 100, .inl (fun _ => 0)))] → va_S A s.heap H locs → lv_has ls 3 [(2, .int x), (0, .ref h0), (1, .int 3)] → W p l e R s m args below meth c H locs cells slots Q (F0 m 43 ls []) := by
  intro n
  induction n with
  | zero =>
    intro k hk x ex f H locs ls hP hD hS hl
    obtain rfl : k = 100 := by omega
    obtain rfl : x = 100 := ex.trans (by decide)
    refine lv_iload_n hx hb dX12_image_43 rfl (lv_at hl 0 rfl) ?_
    refine lv_bipush (v := 100) hx hb dX12_image_44 (by decide) ?_
    refine lv_icmp_ge (tgt := 72) hx hb dX12_image_46 (by decide) (fun _ => ?_) (fun c9 => absurd c9 (by decide))
    exact hend _ _ _ _ hP hD hS hl
  | succ n ih =>
    intro k hk x ex f H locs ls hP hD hS hl
    have hk2 : k < 100 := by omega
    refine lv_iload_n hx hb dX12_image_43 rfl (lv_at hl 0 rfl) ?_
    refine lv_bipush (v := 100) hx hb dX12_image_44 (by decide) ?_
    refine lv_icmp_ge (tgt := 72) hx hb dX12_image_46 (by decide) (fun c9 => by rw [ex] at c9; exact absurd c9 (nI_ge (a := k) (b := 100) hk2 (by decide))) (fun _ => ?_)
    refine lv_aload_n hx hb dX12_image_49 rfl (lv_at hl 1 rfl) ?_
    refine va_get (D := (dC, dI)) (ci := 12) (v := .ref s39) (C := RX12) (T := TX12) (N := 43) hx hb hq inX12 hown hK hP 0 rfl rfl 39 (by decide) (hq _ qw_1199) (fun _ h9 => h9) rfl dX12_image_50 ?_
    refine lv_bipush (v := 100) hx hb dX12_image_53 (by decide) ?_
    refine lv_iload_n hx hb dX12_image_55 rfl (lv_at hl 2 rfl) ?_
    refine lv_imul hx hb dX12_image_56 ?_
    refine lv_topi (fun y_1 ey_1 => ?_)
    obtain rfl : y_1 = 300 := ey_1.trans (by decide)
    refine lv_iload_n hx hb dX12_image_57 rfl (lv_at hl 0 rfl) ?_
    refine lv_iadd hx hb dX12_image_58 ?_
    refine lv_topi (fun y_2 ey_2 => ?_)
    refine lv_aload_n hx hb dX12_image_59 rfl (lv_at hl 1 rfl) ?_
    refine va_get (D := (dC, dI)) (ci := 12) (v := .ref s20) (C := RX12) (T := TX12) (N := 43) hx hb hq inX12 hown hK hP 0 rfl rfl 20 (by decide) (hq _ qw_1180) (fun _ h9 => h9) rfl dX12_image_60 ?_
    refine lv_iload_n hx hb dX12_image_63 rfl (lv_at hl 0 rfl) ?_
    refine va_iald hx hb hK hP 5 4 rfl rfl (by rw [ex]; exact vp_in_nI hk2 (by omega)) dX12_image_64 ?_
    refine lv_topi (fun y_3 ey_3 => ?_)
    obtain rfl : y_3 = 0 := ey_3.trans (rfl)
    refine va_iast hx hb hK hP hD hS 4 3 rfl rfl (by rw [ey_2, ex, show ((300 : Int32) + nI k) = nI (300 + k) from nI_add 300 k]; exact vp_in_nI (by omega) (by omega)) dX12_image_65 (fun H locs hP hD hS => ?_)
    generalize upd f (Int32.toNatClampNeg y_2) 0 = f_4 at hP hD
    have hP : va_P (dC, dI) classes [(h0, .inr (12, [.ref s0, .int 0, .int 0, .ref s3, .ref s4, .ref s5, .ref s6, .ref s7, .int 0, .int 0, .int 0, .int 0, .int 0, .int 0, .int 0, .ref s15, .int 0, .ref s17, .int 0, .ref s19, .ref s20, .int (-1), .int 0, .int 0, .int 0, .int 0, .int 0, .ref s27, .int 0, .ref s29, .ref s30, .ref s31, .int 0, .int 0, .int 0, .ref s35, .ref s36, .ref s37, .long 0, .ref s39, .ref s40, .ref s41, .ref s42])), (s42, .inl (k42, 4, .inl g42)), (s40, .inl (k40, 4, .inl g40)), (s41, .inl (k41, 4, .inl g41)), (s39, .inl (k39, 400, .inl f_4)), (s20, .inl (k20, 100, .inl (fun _ => 0)))] H := hP
    have hD : va_D A [(h0, .inr (12, [.ref s0, .int 0, .int 0, .ref s3, .ref s4, .ref s5, .ref s6, .ref s7, .int 0, .int 0, .int 0, .int 0, .int 0, .int 0, .int 0, .ref s15, .int 0, .ref s17, .int 0, .ref s19, .ref s20, .int (-1), .int 0, .int 0, .int 0, .int 0, .int 0, .ref s27, .int 0, .ref s29, .ref s30, .ref s31, .int 0, .int 0, .int 0, .ref s35, .ref s36, .ref s37, .long 0, .ref s39, .ref s40, .ref s41, .ref s42])), (s42, .inl (k42, 4, .inl g42)), (s40, .inl (k40, 4, .inl g40)), (s41, .inl (k41, 4, .inl g41)), (s39, .inl (k39, 400, .inl f_4)), (s20, .inl (k20, 100, .inl (fun _ => 0)))] := hD
    obtain ⟨y_5, ey_5⟩ : ∃ y : Int32, y = x + 1 := ⟨_, rfl⟩
    refine lv_iinc (v := y_5) (lv' := [(2, .int y_5), (0, .ref h0), (1, .int 3)]) hx hb dX12_image_66 hl (k := 0) rfl (by rw [ey_5]; rfl) (by decide) rfl (fun ls hl => ?_)
    refine lv_goto (tgt := 43) hx hb dX12_image_69 (by decide) ?_
    exact ih (k + 1) (by omega) y_5 (by rw [ey_5, ex]; exact nI_1 k) _ _ _ _ hP hD hS (lv_sub hl [0, 1, 2] rfl)
set_option maxHeartbeats 4000000 in
set_option maxRecDepth 100000 in
/-- c_M_image_0 -/
theorem c_M_image_0 (l : Launch) (dC : Nat → ClassId) (dI : Nat → Nat → Nat) (sz : Nat) (h0 : Nat) (s0 : Nat) (s3 : Nat) (s4 : Nat) (s5 : Nat) (s6 : Nat) (s7 : Nat) (s15 : Nat) (s17 : Nat) (s19 : Nat) (s20 : Nat) (s27 : Nat) (s29 : Nat) (s30 : Nat) (s31 : Nat) (s35 : Nat) (s36 : Nat) (s37 : Nat) (s39 : Nat) (s40 : Nat) (s41 : Nat) (s42 : Nat) (k42 : ClassId) (k40 : ClassId) (g40 : Nat → Int32) (k41 : ClassId) (g41 : Nat → Int32) (k39 : ClassId) (g39 : Nat → Int32) (k20 : ClassId) : Met l yX12_image (.code yX12_image cX12_image 3 (some .int) :: wsA) ({ frames := 1, cells := 0, slots := 0, locals := 25 }) (va_Pc [.ref h0, .int 0] (fun U => U.heap.size = sz ∧ va_P (dC, dI) classes [(h0, .inr (12, [.ref s0, .int 0, .int 0, .ref s3, .ref s4, .ref s5, .ref s6, .ref s7, .int 0, .int 0, .int 0, .int 0, .int 0, .int 0, .int 0, .ref s15, .int 0, .ref s17, .int 0, .ref s19, .ref s20, .int (-1), .int 0, .int 0, .int 0, .int 0, .int 0, .ref s27, .int 0, .ref s29, .ref s30, .ref s31, .int 0, .int 0, .int 0, .ref s35, .ref s36, .ref s37, .long 0, .ref s39, .ref s40, .ref s41, .ref s42])), (s42, .inl (k42, 4, .inl (fun _ => 0))), (s40, .inl (k40, 4, .inl g40)), (s41, .inl (k41, 4, .inl g41)), (s39, .inl (k39, 400, .inl g39)), (s20, .inl (k20, 100, .inl (fun _ => 0)))] U.heap ∧ va_K (dC, dI) classes [(k42, .boolean), (k40, .int), (k41, .int), (k39, .int), (k20, .int)] U ∧ va_D (fun _ => True) [(h0, .inr (12, [.ref s0, .int 0, .int 0, .ref s3, .ref s4, .ref s5, .ref s6, .ref s7, .int 0, .int 0, .int 0, .int 0, .int 0, .int 0, .int 0, .ref s15, .int 0, .ref s17, .int 0, .ref s19, .ref s20, .int (-1), .int 0, .int 0, .int 0, .int 0, .int 0, .ref s27, .int 0, .ref s29, .ref s30, .ref s31, .int 0, .int 0, .int 0, .ref s35, .ref s36, .ref s37, .long 0, .ref s39, .ref s40, .ref s41, .ref s42])), (s42, .inl (k42, 4, .inl (fun _ => 0))), (s40, .inl (k40, 4, .inl g40)), (s41, .inl (k41, 4, .inl g41)), (s39, .inl (k39, 400, .inl g39)), (s20, .inl (k20, 100, .inl (fun _ => 0)))] ∧ xE U)) (va_Qi (fun (r : Int32) (_ : Unit) => r = 0) (fun _ _ => True) (va_A [(h0, .inr (12, [.ref s0, .int 0, .int 0, .ref s3, .ref s4, .ref s5, .ref s6, .ref s7, .int 0, .int 0, .int 0, .int 0, .int 0, .int 0, .int 0, .ref s15, .int 0, .ref s17, .int 0, .ref s19, .ref s20, .int (-1), .int 0, .int 0, .int 0, .int 0, .int 0, .ref s27, .int 0, .ref s29, .ref s30, .ref s31, .int 0, .int 0, .int 0, .ref s35, .ref s36, .ref s37, .long 0, .ref s39, .ref s40, .ref s41, .ref s42])), (s42, .inl (k42, 4, .inl (fun _ => 0))), (s40, .inl (k40, 4, .inl g40)), (s41, .inl (k41, 4, .inl g41)), (s39, .inl (k39, 400, .inl g39)), (s20, .inl (k20, 100, .inl (fun _ => 0)))] sz)) 0 0 (va_A [(h0, .inr (12, [.ref s0, .int 0, .int 0, .ref s3, .ref s4, .ref s5, .ref s6, .ref s7, .int 0, .int 0, .int 0, .int 0, .int 0, .int 0, .int 0, .ref s15, .int 0, .ref s17, .int 0, .ref s19, .ref s20, .int (-1), .int 0, .int 0, .int 0, .int 0, .int 0, .ref s27, .int 0, .ref s29, .ref s30, .ref s31, .int 0, .int 0, .int 0, .ref s35, .ref s36, .ref s37, .long 0, .ref s39, .ref s40, .ref s41, .ref s42])), (s42, .inl (k42, 4, .inl (fun _ => 0))), (s40, .inl (k40, 4, .inl g40)), (s41, .inl (k41, 4, .inl g41)), (s39, .inl (k39, 400, .inl g39)), (s20, .inl (k20, 100, .inl (fun _ => 0)))] sz) := by
  refine Met.ofW (cc := cX12_image) (maxL := 3) (ret := (some .int)) (by decide) rfl ?_
  intro p e s m args below meth c s₁ B hml hv
  obtain ⟨rfl, hsz, hP, hK, hD0, hE⟩ := hv
  have hx := B.exec
  have hb := B.bytes
  have hr := B.returns
  have hts := atoms_spec (ws := .code yX12_image cX12_image 3 (some .int) :: wsA) B.pre
  have hq : ∀ w ∈ wsA, w.before _ s = true := fun w h => hts w (List.mem_cons_of_mem _ h)
  have hown : s.vm.findClass RX12 = some m.cls := findClass_of_methodNamed B.named
  have hlocks := B.notSynchronized
  subst hsz
  have hD := hD0.self (sz := s.heap.size)
  generalize hAe : va_A [(h0, .inr (12, [.ref s0, .int 0, .int 0, .ref s3, .ref s4, .ref s5, .ref s6, .ref s7, .int 0, .int 0, .int 0, .int 0, .int 0, .int 0, .int 0, .ref s15, .int 0, .ref s17, .int 0, .ref s19, .ref s20, .int (-1), .int 0, .int 0, .int 0, .int 0, .int 0, .ref s27, .int 0, .ref s29, .ref s30, .ref s31, .int 0, .int 0, .int 0, .ref s35, .ref s36, .ref s37, .long 0, .ref s39, .ref s40, .ref s41, .ref s42])), (s42, .inl (k42, 4, .inl (fun _ => 0))), (s40, .inl (k40, 4, .inl g40)), (s41, .inl (k41, 4, .inl g41)), (s39, .inl (k39, 400, .inl g39)), (s20, .inl (k20, 100, .inl (fun _ => 0)))] s.heap.size = A at hD ⊢
  have hA : ∀ q : Nat, s.heap.size ≤ q → A q := fun q h => by rw [← hAe]; exact Or.inr h
  have hS : va_S A s.heap s.heap [] := va_S.rf
  have hl := lv_entry ([.ref h0, .int 0]) (n := 3) (Nat.le_of_ble_eq_true rfl)
  rw [lg_entry_eq]
  generalize (lg_sl ([.ref h0, .int 0]) ++ List.replicate (3 - (lg_sl ([.ref h0, .int 0])).length) Slot.unset).toArray = ls at hl ⊢
  have hl : lv_has ls 3 [(0, .ref h0), (1, .int 0)] := hl
  refine lv_iload_n hx hb dX12_image_0 rfl (lv_at hl 1 rfl) ?_
  refine lv_i2l hx hb dX12_image_1 rfl ?_
  refine lv_topl (fun y_1 ey_1 => ?_)
  obtain rfl : y_1 = 0 := ey_1.trans (by decide)
  refine lv_lconst (v := 0) hx hb dX12_image_2 (by decide) ?_
  refine lv_ldc2 (v := 3) hx hb hown (hq _ qw_1794) dX12_image_3 ?_
  have hPc := hP.sub (ws' := []) [] rfl
  have hDc := hD.sub (ws' := []) [] (by decide) rfl
  have hKc := hK.sub (tys' := []) [] rfl
  have hFc := va_free (wc := []) hD hS hA [] rfl
  refine va_calli (va_runS (As := [.long 0, .long 0, .long 3]) (rest := []) ⟨hx, hb, hml, hown, hq⟩ (c_M_in_0 l dC dI _  ) (cwS 3 hq (gS qw_1364 qw_1365 qw_131 qw_1366) rfl rfl rfl (by decide +kernel) ⟨Nat.le_of_ble_eq_true rfl, Nat.le_of_ble_eq_true rfl⟩) ⟨fun a U g mk q => by obtain ⟨q0, q1, qP, qK, qD, qE⟩ := q; exact ⟨q0, q1, qP, va_K.moved (u := U) (U := U.calling g mk a) (Vm.Alike.refl U.vm) qK, qD, xE.same rfl qE⟩, fun U hU hW => ⟨rfl, by rw [hU], by rw [hU]; exact hPc, va_K.moved hW.alike hKc, hDc.weaken (fun _ _ _ _ => trivial), xE.warm hW hE⟩⟩ rfl rfl hl.1 rfl (lv_room (Nat.le_of_ble_eq_true rfl)) dX12_image_6 ⟨Nat.le_of_ble_eq_true rfl, Nat.le_of_ble_eq_true rfl⟩) hS (fun q _ h => hFc q h) hFc (fun r_2 u t H1 locs ht hvm hw hB hz1 hk1 hS => ?_)
  obtain ⟨hP1, hK1, hD1⟩ := hB
  rw [ht] at hP1
  have hK1 := va_K.moved hvm.symm hK1
  obtain ⟨hP, hD⟩ := va_join (wr := [(h0, .inr (12, [.ref s0, .int 0, .int 0, .ref s3, .ref s4, .ref s5, .ref s6, .ref s7, .int 0, .int 0, .int 0, .int 0, .int 0, .int 0, .int 0, .ref s15, .int 0, .ref s17, .int 0, .ref s19, .ref s20, .int (-1), .int 0, .int 0, .int 0, .int 0, .int 0, .ref s27, .int 0, .ref s29, .ref s30, .ref s31, .int 0, .int 0, .int 0, .ref s35, .ref s36, .ref s37, .long 0, .ref s39, .ref s40, .ref s41, .ref s42])), (s42, .inl (k42, 4, .inl (fun _ => 0))), (s40, .inl (k40, 4, .inl g40)), (s41, .inl (k41, 4, .inl g41)), (s39, .inl (k39, 400, .inl g39)), (s20, .inl (k20, 100, .inl (fun _ => 0)))]) (w1 := []) hP hD [] [0, 1, 2, 3, 4, 5] rfl rfl (by decide) (by decide) hk1 hFc hP1 hD1
  generalize H1 = H at hP hS ⊢
  have hP : va_P (dC, dI) classes [(h0, .inr (12, [.ref s0, .int 0, .int 0, .ref s3, .ref s4, .ref s5, .ref s6, .ref s7, .int 0, .int 0, .int 0, .int 0, .int 0, .int 0, .int 0, .ref s15, .int 0, .ref s17, .int 0, .ref s19, .ref s20, .int (-1), .int 0, .int 0, .int 0, .int 0, .int 0, .ref s27, .int 0, .ref s29, .ref s30, .ref s31, .int 0, .int 0, .int 0, .ref s35, .ref s36, .ref s37, .long 0, .ref s39, .ref s40, .ref s41, .ref s42])), (s42, .inl (k42, 4, .inl (fun _ => 0))), (s40, .inl (k40, 4, .inl g40)), (s41, .inl (k41, 4, .inl g41)), (s39, .inl (k39, 400, .inl g39)), (s20, .inl (k20, 100, .inl (fun _ => 0)))] H := hP
  have hD : va_D A [(h0, .inr (12, [.ref s0, .int 0, .int 0, .ref s3, .ref s4, .ref s5, .ref s6, .ref s7, .int 0, .int 0, .int 0, .int 0, .int 0, .int 0, .int 0, .ref s15, .int 0, .ref s17, .int 0, .ref s19, .ref s20, .int (-1), .int 0, .int 0, .int 0, .int 0, .int 0, .ref s27, .int 0, .ref s29, .ref s30, .ref s31, .int 0, .int 0, .int 0, .ref s35, .ref s36, .ref s37, .long 0, .ref s39, .ref s40, .ref s41, .ref s42])), (s42, .inl (k42, 4, .inl (fun _ => 0))), (s40, .inl (k40, 4, .inl g40)), (s41, .inl (k41, 4, .inl g41)), (s39, .inl (k39, 400, .inl g39)), (s20, .inl (k20, 100, .inl (fun _ => 0)))] := hD
  obtain rfl : r_2 = 1 := hw
  refine lv_if_ne (tgt := 14) hx hb dX12_image_9 (by decide) (fun _ => ?_) (fun c9 => absurd c9 (by decide))
  refine lv_aload_n hx hb dX12_image_14 rfl (lv_at hl 0 rfl) ?_
  refine va_get (D := (dC, dI)) (ci := 12) (v := .ref s42) (C := RX12) (T := TX12) (N := 43) hx hb hq inX12 hown hK hP 0 rfl rfl 42 (by decide) (hq _ qw_1202) (fun _ h9 => h9) rfl dX12_image_15 ?_
  refine lv_iload_n hx hb dX12_image_18 rfl (lv_at hl 1 rfl) ?_
  refine lv_iconst (v := 1) hx hb dX12_image_19 (by decide) ?_
  refine va_zast hx hb hK hP hD hS 1 0 rfl rfl (inr_ok rfl) dX12_image_20 (fun H locs hP hD hS => ?_)
  generalize upd (fun _ => 0) (Int32.toNatClampNeg 0) (vp_nar .boolean 1) = f_3 at hP hD
  have hP : va_P (dC, dI) classes [(h0, .inr (12, [.ref s0, .int 0, .int 0, .ref s3, .ref s4, .ref s5, .ref s6, .ref s7, .int 0, .int 0, .int 0, .int 0, .int 0, .int 0, .int 0, .ref s15, .int 0, .ref s17, .int 0, .ref s19, .ref s20, .int (-1), .int 0, .int 0, .int 0, .int 0, .int 0, .ref s27, .int 0, .ref s29, .ref s30, .ref s31, .int 0, .int 0, .int 0, .ref s35, .ref s36, .ref s37, .long 0, .ref s39, .ref s40, .ref s41, .ref s42])), (s42, .inl (k42, 4, .inl f_3)), (s40, .inl (k40, 4, .inl g40)), (s41, .inl (k41, 4, .inl g41)), (s39, .inl (k39, 400, .inl g39)), (s20, .inl (k20, 100, .inl (fun _ => 0)))] H := hP
  have hD : va_D A [(h0, .inr (12, [.ref s0, .int 0, .int 0, .ref s3, .ref s4, .ref s5, .ref s6, .ref s7, .int 0, .int 0, .int 0, .int 0, .int 0, .int 0, .int 0, .ref s15, .int 0, .ref s17, .int 0, .ref s19, .ref s20, .int (-1), .int 0, .int 0, .int 0, .int 0, .int 0, .ref s27, .int 0, .ref s29, .ref s30, .ref s31, .int 0, .int 0, .int 0, .ref s35, .ref s36, .ref s37, .long 0, .ref s39, .ref s40, .ref s41, .ref s42])), (s42, .inl (k42, 4, .inl f_3)), (s40, .inl (k40, 4, .inl g40)), (s41, .inl (k41, 4, .inl g41)), (s39, .inl (k39, 400, .inl g39)), (s20, .inl (k20, 100, .inl (fun _ => 0)))] := hD
  refine lv_aload_n hx hb dX12_image_21 rfl (lv_at hl 0 rfl) ?_
  refine va_get (D := (dC, dI)) (ci := 12) (v := .ref s40) (C := RX12) (T := TX12) (N := 43) hx hb hq inX12 hown hK hP 0 rfl rfl 40 (by decide) (hq _ qw_1200) (fun _ h9 => h9) rfl dX12_image_22 ?_
  refine lv_iload_n hx hb dX12_image_25 rfl (lv_at hl 1 rfl) ?_
  refine lv_aload_n hx hb dX12_image_26 rfl (lv_at hl 0 rfl) ?_
  refine va_get (D := (dC, dI)) (ci := 12) (v := .int (-1)) (C := RX12) (T := TX12) (N := 43) hx hb hq inX12 hown hK hP 0 rfl rfl 21 (by decide) (hq _ qw_1181) (fun _ h9 => h9) rfl dX12_image_27 ?_
  refine va_iast hx hb hK hP hD hS 2 1 rfl rfl (inr_ok rfl) dX12_image_30 (fun H locs hP hD hS => ?_)
  generalize upd g40 (Int32.toNatClampNeg 0) (-1) = f_4 at hP hD
  have hP : va_P (dC, dI) classes [(h0, .inr (12, [.ref s0, .int 0, .int 0, .ref s3, .ref s4, .ref s5, .ref s6, .ref s7, .int 0, .int 0, .int 0, .int 0, .int 0, .int 0, .int 0, .ref s15, .int 0, .ref s17, .int 0, .ref s19, .ref s20, .int (-1), .int 0, .int 0, .int 0, .int 0, .int 0, .ref s27, .int 0, .ref s29, .ref s30, .ref s31, .int 0, .int 0, .int 0, .ref s35, .ref s36, .ref s37, .long 0, .ref s39, .ref s40, .ref s41, .ref s42])), (s42, .inl (k42, 4, .inl f_3)), (s40, .inl (k40, 4, .inl f_4)), (s41, .inl (k41, 4, .inl g41)), (s39, .inl (k39, 400, .inl g39)), (s20, .inl (k20, 100, .inl (fun _ => 0)))] H := hP
  have hD : va_D A [(h0, .inr (12, [.ref s0, .int 0, .int 0, .ref s3, .ref s4, .ref s5, .ref s6, .ref s7, .int 0, .int 0, .int 0, .int 0, .int 0, .int 0, .int 0, .ref s15, .int 0, .ref s17, .int 0, .ref s19, .ref s20, .int (-1), .int 0, .int 0, .int 0, .int 0, .int 0, .ref s27, .int 0, .ref s29, .ref s30, .ref s31, .int 0, .int 0, .int 0, .ref s35, .ref s36, .ref s37, .long 0, .ref s39, .ref s40, .ref s41, .ref s42])), (s42, .inl (k42, 4, .inl f_3)), (s40, .inl (k40, 4, .inl f_4)), (s41, .inl (k41, 4, .inl g41)), (s39, .inl (k39, 400, .inl g39)), (s20, .inl (k20, 100, .inl (fun _ => 0)))] := hD
  refine lv_aload_n hx hb dX12_image_31 rfl (lv_at hl 0 rfl) ?_
  refine va_get (D := (dC, dI)) (ci := 12) (v := .ref s41) (C := RX12) (T := TX12) (N := 43) hx hb hq inX12 hown hK hP 0 rfl rfl 41 (by decide) (hq _ qw_1201) (fun _ h9 => h9) rfl dX12_image_32 ?_
  refine lv_iload_n hx hb dX12_image_35 rfl (lv_at hl 1 rfl) ?_
  refine lv_aload_n hx hb dX12_image_36 rfl (lv_at hl 0 rfl) ?_
  refine va_get (D := (dC, dI)) (ci := 12) (v := .int 0) (C := RX12) (T := TX12) (N := 43) hx hb hq inX12 hown hK hP 0 rfl rfl 22 (by decide) (hq _ qw_1182) (fun _ h9 => h9) rfl dX12_image_37 ?_
  refine va_iast hx hb hK hP hD hS 3 2 rfl rfl (inr_ok rfl) dX12_image_40 (fun H locs hP hD hS => ?_)
  generalize upd g41 (Int32.toNatClampNeg 0) 0 = f_5 at hP hD
  have hP : va_P (dC, dI) classes [(h0, .inr (12, [.ref s0, .int 0, .int 0, .ref s3, .ref s4, .ref s5, .ref s6, .ref s7, .int 0, .int 0, .int 0, .int 0, .int 0, .int 0, .int 0, .ref s15, .int 0, .ref s17, .int 0, .ref s19, .ref s20, .int (-1), .int 0, .int 0, .int 0, .int 0, .int 0, .ref s27, .int 0, .ref s29, .ref s30, .ref s31, .int 0, .int 0, .int 0, .ref s35, .ref s36, .ref s37, .long 0, .ref s39, .ref s40, .ref s41, .ref s42])), (s42, .inl (k42, 4, .inl f_3)), (s40, .inl (k40, 4, .inl f_4)), (s41, .inl (k41, 4, .inl f_5)), (s39, .inl (k39, 400, .inl g39)), (s20, .inl (k20, 100, .inl (fun _ => 0)))] H := hP
  have hD : va_D A [(h0, .inr (12, [.ref s0, .int 0, .int 0, .ref s3, .ref s4, .ref s5, .ref s6, .ref s7, .int 0, .int 0, .int 0, .int 0, .int 0, .int 0, .int 0, .ref s15, .int 0, .ref s17, .int 0, .ref s19, .ref s20, .int (-1), .int 0, .int 0, .int 0, .int 0, .int 0, .ref s27, .int 0, .ref s29, .ref s30, .ref s31, .int 0, .int 0, .int 0, .ref s35, .ref s36, .ref s37, .long 0, .ref s39, .ref s40, .ref s41, .ref s42])), (s42, .inl (k42, 4, .inl f_3)), (s40, .inl (k40, 4, .inl f_4)), (s41, .inl (k41, 4, .inl f_5)), (s39, .inl (k39, 400, .inl g39)), (s20, .inl (k20, 100, .inl (fun _ => 0)))] := hD
  refine lv_iconst (v := 0) hx hb dX12_image_41 (by decide) ?_
  refine lv_istore_n (lv' := [(2, .int 0), (0, .ref h0), (1, .int 0)]) hx hb dX12_image_42 rfl hl (by decide) rfl (fun ls hl => ?_)
  refine lp_M_image_0 hx hb hown hq hK (fun f_6 H locs ls hP hD hS hl => ?_) 100 0 rfl 0 rfl _ _ _ _ hP hD hS hl
  refine lv_aload_n hx hb dX12_image_72 rfl (lv_at hl 1 rfl) ?_
  refine va_get (D := (dC, dI)) (ci := 12) (v := .ref s20) (C := RX12) (T := TX12) (N := 43) hx hb hq inX12 hown hK hP 0 rfl rfl 20 (by decide) (hq _ qw_1180) (fun _ h9 => h9) rfl dX12_image_73 ?_
  refine lv_bipush (v := 10) hx hb dX12_image_76 (by decide) ?_
  refine va_iald hx hb hK hP 5 4 rfl rfl (inr_ok rfl) dX12_image_78 ?_
  refine lv_topi (fun y_7 ey_7 => ?_)
  obtain rfl : y_7 = 0 := ey_7.trans (rfl)
  refine W.widen (k := 0) (n := 0) (Nat.le_of_ble_eq_true rfl) (Nat.le_of_ble_eq_true rfl) ?_
  exact W.iret (v := 0) hx hb hr (fun t ht hW => ⟨⟨0, (), rfl, rfl, trivial⟩, hS.F ht⟩) hS.2.2 dX12_image_79

set_option maxHeartbeats 4000000 in
set_option maxRecDepth 100000 in
/-- c_M_back_0 -/
theorem c_M_back_0 (l : Launch) (dC : Nat → ClassId) (dI : Nat → Nat → Nat) (sz : Nat) (h0 : Nat) (s0 : Nat) (s3 : Nat) (s4 : Nat) (s5 : Nat) (s6 : Nat) (s7 : Nat) (s15 : Nat) (s17 : Nat) (s19 : Nat) (s20 : Nat) (s27 : Nat) (s29 : Nat) (s30 : Nat) (s31 : Nat) (s35 : Nat) (s36 : Nat) (s37 : Nat) (s39 : Nat) (s40 : Nat) (s41 : Nat) (s42 : Nat) (k42 : ClassId) : Met l yX12_back (.code yX12_back cX12_back 3 (some .int) :: wsA) ({ frames := 1, cells := 0, slots := 0, locals := 25 }) (va_Pc [.ref h0, .int 0] (fun U => U.heap.size = sz ∧ va_P (dC, dI) classes [(h0, .inr (12, [.ref s0, .int 0, .int 0, .ref s3, .ref s4, .ref s5, .ref s6, .ref s7, .int 0, .int 0, .int 0, .int 0, .int 0, .int 0, .int 0, .ref s15, .int 0, .ref s17, .int 0, .ref s19, .ref s20, .int (-1), .int 0, .int 0, .int 0, .int 0, .int 0, .ref s27, .int 0, .ref s29, .ref s30, .ref s31, .int 0, .int 0, .int 0, .ref s35, .ref s36, .ref s37, .long 0, .ref s39, .ref s40, .ref s41, .ref s42])), (s42, .inl (k42, 4, .inl (fun _ => 0)))] U.heap ∧ va_K (dC, dI) classes [(k42, .boolean)] U ∧ va_D (fun _ => True) [(h0, .inr (12, [.ref s0, .int 0, .int 0, .ref s3, .ref s4, .ref s5, .ref s6, .ref s7, .int 0, .int 0, .int 0, .int 0, .int 0, .int 0, .int 0, .ref s15, .int 0, .ref s17, .int 0, .ref s19, .ref s20, .int (-1), .int 0, .int 0, .int 0, .int 0, .int 0, .ref s27, .int 0, .ref s29, .ref s30, .ref s31, .int 0, .int 0, .int 0, .ref s35, .ref s36, .ref s37, .long 0, .ref s39, .ref s40, .ref s41, .ref s42])), (s42, .inl (k42, 4, .inl (fun _ => 0)))] ∧ xE U)) (va_Qi (fun (r : Int32) (_ : Unit) => r = (-1)) (fun _ _ => True) (va_A [(h0, .inr (12, [.ref s0, .int 0, .int 0, .ref s3, .ref s4, .ref s5, .ref s6, .ref s7, .int 0, .int 0, .int 0, .int 0, .int 0, .int 0, .int 0, .ref s15, .int 0, .ref s17, .int 0, .ref s19, .ref s20, .int (-1), .int 0, .int 0, .int 0, .int 0, .int 0, .ref s27, .int 0, .ref s29, .ref s30, .ref s31, .int 0, .int 0, .int 0, .ref s35, .ref s36, .ref s37, .long 0, .ref s39, .ref s40, .ref s41, .ref s42])), (s42, .inl (k42, 4, .inl (fun _ => 0)))] sz)) 0 0 (va_A [(h0, .inr (12, [.ref s0, .int 0, .int 0, .ref s3, .ref s4, .ref s5, .ref s6, .ref s7, .int 0, .int 0, .int 0, .int 0, .int 0, .int 0, .int 0, .ref s15, .int 0, .ref s17, .int 0, .ref s19, .ref s20, .int (-1), .int 0, .int 0, .int 0, .int 0, .int 0, .ref s27, .int 0, .ref s29, .ref s30, .ref s31, .int 0, .int 0, .int 0, .ref s35, .ref s36, .ref s37, .long 0, .ref s39, .ref s40, .ref s41, .ref s42])), (s42, .inl (k42, 4, .inl (fun _ => 0)))] sz) := by
  refine Met.ofW (cc := cX12_back) (maxL := 3) (ret := (some .int)) (by decide) rfl ?_
  intro p e s m args below meth c s₁ B hml hv
  obtain ⟨rfl, hsz, hP, hK, hD0, hE⟩ := hv
  have hx := B.exec
  have hb := B.bytes
  have hr := B.returns
  have hts := atoms_spec (ws := .code yX12_back cX12_back 3 (some .int) :: wsA) B.pre
  have hq : ∀ w ∈ wsA, w.before _ s = true := fun w h => hts w (List.mem_cons_of_mem _ h)
  have hown : s.vm.findClass RX12 = some m.cls := findClass_of_methodNamed B.named
  have hlocks := B.notSynchronized
  subst hsz
  have hD := hD0.self (sz := s.heap.size)
  generalize hAe : va_A [(h0, .inr (12, [.ref s0, .int 0, .int 0, .ref s3, .ref s4, .ref s5, .ref s6, .ref s7, .int 0, .int 0, .int 0, .int 0, .int 0, .int 0, .int 0, .ref s15, .int 0, .ref s17, .int 0, .ref s19, .ref s20, .int (-1), .int 0, .int 0, .int 0, .int 0, .int 0, .ref s27, .int 0, .ref s29, .ref s30, .ref s31, .int 0, .int 0, .int 0, .ref s35, .ref s36, .ref s37, .long 0, .ref s39, .ref s40, .ref s41, .ref s42])), (s42, .inl (k42, 4, .inl (fun _ => 0)))] s.heap.size = A at hD ⊢
  have hA : ∀ q : Nat, s.heap.size ≤ q → A q := fun q h => by rw [← hAe]; exact Or.inr h
  have hS : va_S A s.heap s.heap [] := va_S.rf
  have hl := lv_entry ([.ref h0, .int 0]) (n := 3) (Nat.le_of_ble_eq_true rfl)
  rw [lg_entry_eq]
  generalize (lg_sl ([.ref h0, .int 0]) ++ List.replicate (3 - (lg_sl ([.ref h0, .int 0])).length) Slot.unset).toArray = ls at hl ⊢
  have hl : lv_has ls 3 [(0, .ref h0), (1, .int 0)] := hl
  refine lv_iload_n hx hb dX12_back_0 rfl (lv_at hl 1 rfl) ?_
  refine lv_i2l hx hb dX12_back_1 rfl ?_
  refine lv_topl (fun y_1 ey_1 => ?_)
  obtain rfl : y_1 = 0 := ey_1.trans (by decide)
  refine lv_lconst (v := 0) hx hb dX12_back_2 (by decide) ?_
  refine lv_ldc2 (v := 3) hx hb hown (hq _ qw_1794) dX12_back_3 ?_
  have hPc := hP.sub (ws' := []) [] rfl
  have hDc := hD.sub (ws' := []) [] (by decide) rfl
  have hKc := hK.sub (tys' := []) [] rfl
  have hFc := va_free (wc := []) hD hS hA [] rfl
  refine va_calli (va_runS (As := [.long 0, .long 0, .long 3]) (rest := []) ⟨hx, hb, hml, hown, hq⟩ (c_M_in_0 l dC dI _  ) (cwS 3 hq (gS qw_1364 qw_1365 qw_131 qw_1366) rfl rfl rfl (by decide +kernel) ⟨Nat.le_of_ble_eq_true rfl, Nat.le_of_ble_eq_true rfl⟩) ⟨fun a U g mk q => by obtain ⟨q0, q1, qP, qK, qD, qE⟩ := q; exact ⟨q0, q1, qP, va_K.moved (u := U) (U := U.calling g mk a) (Vm.Alike.refl U.vm) qK, qD, xE.same rfl qE⟩, fun U hU hW => ⟨rfl, by rw [hU], by rw [hU]; exact hPc, va_K.moved hW.alike hKc, hDc.weaken (fun _ _ _ _ => trivial), xE.warm hW hE⟩⟩ rfl rfl hl.1 rfl (lv_room (Nat.le_of_ble_eq_true rfl)) dX12_back_6 ⟨Nat.le_of_ble_eq_true rfl, Nat.le_of_ble_eq_true rfl⟩) hS (fun q _ h => hFc q h) hFc (fun r_2 u t H1 locs ht hvm hw hB hz1 hk1 hS => ?_)
  obtain ⟨hP1, hK1, hD1⟩ := hB
  rw [ht] at hP1
  have hK1 := va_K.moved hvm.symm hK1
  obtain ⟨hP, hD⟩ := va_join (wr := [(h0, .inr (12, [.ref s0, .int 0, .int 0, .ref s3, .ref s4, .ref s5, .ref s6, .ref s7, .int 0, .int 0, .int 0, .int 0, .int 0, .int 0, .int 0, .ref s15, .int 0, .ref s17, .int 0, .ref s19, .ref s20, .int (-1), .int 0, .int 0, .int 0, .int 0, .int 0, .ref s27, .int 0, .ref s29, .ref s30, .ref s31, .int 0, .int 0, .int 0, .ref s35, .ref s36, .ref s37, .long 0, .ref s39, .ref s40, .ref s41, .ref s42])), (s42, .inl (k42, 4, .inl (fun _ => 0)))]) (w1 := []) hP hD [] [0, 1] rfl rfl (by decide) (by decide) hk1 hFc hP1 hD1
  generalize H1 = H at hP hS ⊢
  have hP : va_P (dC, dI) classes [(h0, .inr (12, [.ref s0, .int 0, .int 0, .ref s3, .ref s4, .ref s5, .ref s6, .ref s7, .int 0, .int 0, .int 0, .int 0, .int 0, .int 0, .int 0, .ref s15, .int 0, .ref s17, .int 0, .ref s19, .ref s20, .int (-1), .int 0, .int 0, .int 0, .int 0, .int 0, .ref s27, .int 0, .ref s29, .ref s30, .ref s31, .int 0, .int 0, .int 0, .ref s35, .ref s36, .ref s37, .long 0, .ref s39, .ref s40, .ref s41, .ref s42])), (s42, .inl (k42, 4, .inl (fun _ => 0)))] H := hP
  have hD : va_D A [(h0, .inr (12, [.ref s0, .int 0, .int 0, .ref s3, .ref s4, .ref s5, .ref s6, .ref s7, .int 0, .int 0, .int 0, .int 0, .int 0, .int 0, .int 0, .ref s15, .int 0, .ref s17, .int 0, .ref s19, .ref s20, .int (-1), .int 0, .int 0, .int 0, .int 0, .int 0, .ref s27, .int 0, .ref s29, .ref s30, .ref s31, .int 0, .int 0, .int 0, .ref s35, .ref s36, .ref s37, .long 0, .ref s39, .ref s40, .ref s41, .ref s42])), (s42, .inl (k42, 4, .inl (fun _ => 0)))] := hD
  obtain rfl : r_2 = 1 := hw
  refine lv_if_eq (tgt := 21) hx hb dX12_back_9 (by decide) (fun c9 => absurd c9 (by decide)) (fun _ => ?_)
  refine lv_aload_n hx hb dX12_back_12 rfl (lv_at hl 0 rfl) ?_
  refine va_get (D := (dC, dI)) (ci := 12) (v := .ref s42) (C := RX12) (T := TX12) (N := 43) hx hb hq inX12 hown hK hP 0 rfl rfl 42 (by decide) (hq _ qw_1202) (fun _ h9 => h9) rfl dX12_back_13 ?_
  refine lv_iload_n hx hb dX12_back_16 rfl (lv_at hl 1 rfl) ?_
  refine va_zald hx hb hK hP 1 0 rfl rfl (inr_ok rfl) dX12_back_17 ?_
  refine lv_topi (fun y_3 ey_3 => ?_)
  obtain rfl : y_3 = 0 := ey_3.trans (rfl)
  refine lv_if_ne (tgt := 23) hx hb dX12_back_18 (by decide) (fun c9 => absurd c9 (by decide)) (fun _ => ?_)
  refine lv_iconst (v := (-1)) hx hb dX12_back_21 (by decide) ?_
  refine W.widen (k := 0) (n := 0) (Nat.le_of_ble_eq_true rfl) (Nat.le_of_ble_eq_true rfl) ?_
  exact W.iret (v := (-1)) hx hb hr (fun t ht hW => ⟨⟨(-1), (), rfl, rfl, trivial⟩, hS.F ht⟩) hS.2.2 dX12_back_22

set_option maxHeartbeats 4000000 in
set_option maxRecDepth 100000 in
/-- c_M_image_1 -/
theorem c_M_image_1 (l : Launch) (dC : Nat → ClassId) (dI : Nat → Nat → Nat) (sz : Nat) (h0 : Nat) (s0 : Nat) (s3 : Nat) (s4 : Nat) (s5 : Nat) (s6 : Nat) (s7 : Nat) (s15 : Nat) (s17 : Nat) (s19 : Nat) (s20 : Nat) (s27 : Nat) (s29 : Nat) (s30 : Nat) (s31 : Nat) (s35 : Nat) (s36 : Nat) (s37 : Nat) (s39 : Nat) (s40 : Nat) (s41 : Nat) (s42 : Nat) (k42 : ClassId) (k40 : ClassId) (g40 : Nat → Int32) (k41 : ClassId) (g41 : Nat → Int32) (k39 : ClassId) (g39 : Nat → Int32) (k20 : ClassId) : Met l yX12_image (.code yX12_image cX12_image 3 (some .int) :: wsA) ({ frames := 1, cells := 0, slots := 0, locals := 25 }) (va_Pc [.ref h0, .int 1] (fun U => U.heap.size = sz ∧ va_P (dC, dI) classes [(h0, .inr (12, [.ref s0, .int 0, .int 0, .ref s3, .ref s4, .ref s5, .ref s6, .ref s7, .int 0, .int 0, .int 0, .int 0, .int 0, .int 0, .int 0, .ref s15, .int 0, .ref s17, .int 0, .ref s19, .ref s20, .int (-1), .int 0, .int 0, .int 0, .int 0, .int 0, .ref s27, .int 0, .ref s29, .ref s30, .ref s31, .int 0, .int 0, .int 0, .ref s35, .ref s36, .ref s37, .long 0, .ref s39, .ref s40, .ref s41, .ref s42])), (s42, .inl (k42, 4, .inl (fun _ => 0))), (s40, .inl (k40, 4, .inl g40)), (s41, .inl (k41, 4, .inl g41)), (s39, .inl (k39, 400, .inl g39)), (s20, .inl (k20, 100, .inl (fun _ => 0)))] U.heap ∧ va_K (dC, dI) classes [(k42, .boolean), (k40, .int), (k41, .int), (k39, .int), (k20, .int)] U ∧ va_D (fun _ => True) [(h0, .inr (12, [.ref s0, .int 0, .int 0, .ref s3, .ref s4, .ref s5, .ref s6, .ref s7, .int 0, .int 0, .int 0, .int 0, .int 0, .int 0, .int 0, .ref s15, .int 0, .ref s17, .int 0, .ref s19, .ref s20, .int (-1), .int 0, .int 0, .int 0, .int 0, .int 0, .ref s27, .int 0, .ref s29, .ref s30, .ref s31, .int 0, .int 0, .int 0, .ref s35, .ref s36, .ref s37, .long 0, .ref s39, .ref s40, .ref s41, .ref s42])), (s42, .inl (k42, 4, .inl (fun _ => 0))), (s40, .inl (k40, 4, .inl g40)), (s41, .inl (k41, 4, .inl g41)), (s39, .inl (k39, 400, .inl g39)), (s20, .inl (k20, 100, .inl (fun _ => 0)))] ∧ xE U)) (va_Qi (fun (r : Int32) (_ : Unit) => r = 0) (fun _ _ => True) (va_A [(h0, .inr (12, [.ref s0, .int 0, .int 0, .ref s3, .ref s4, .ref s5, .ref s6, .ref s7, .int 0, .int 0, .int 0, .int 0, .int 0, .int 0, .int 0, .ref s15, .int 0, .ref s17, .int 0, .ref s19, .ref s20, .int (-1), .int 0, .int 0, .int 0, .int 0, .int 0, .ref s27, .int 0, .ref s29, .ref s30, .ref s31, .int 0, .int 0, .int 0, .ref s35, .ref s36, .ref s37, .long 0, .ref s39, .ref s40, .ref s41, .ref s42])), (s42, .inl (k42, 4, .inl (fun _ => 0))), (s40, .inl (k40, 4, .inl g40)), (s41, .inl (k41, 4, .inl g41)), (s39, .inl (k39, 400, .inl g39)), (s20, .inl (k20, 100, .inl (fun _ => 0)))] sz)) 0 0 (va_A [(h0, .inr (12, [.ref s0, .int 0, .int 0, .ref s3, .ref s4, .ref s5, .ref s6, .ref s7, .int 0, .int 0, .int 0, .int 0, .int 0, .int 0, .int 0, .ref s15, .int 0, .ref s17, .int 0, .ref s19, .ref s20, .int (-1), .int 0, .int 0, .int 0, .int 0, .int 0, .ref s27, .int 0, .ref s29, .ref s30, .ref s31, .int 0, .int 0, .int 0, .ref s35, .ref s36, .ref s37, .long 0, .ref s39, .ref s40, .ref s41, .ref s42])), (s42, .inl (k42, 4, .inl (fun _ => 0))), (s40, .inl (k40, 4, .inl g40)), (s41, .inl (k41, 4, .inl g41)), (s39, .inl (k39, 400, .inl g39)), (s20, .inl (k20, 100, .inl (fun _ => 0)))] sz) := by
  refine Met.ofW (cc := cX12_image) (maxL := 3) (ret := (some .int)) (by decide) rfl ?_
  intro p e s m args below meth c s₁ B hml hv
  obtain ⟨rfl, hsz, hP, hK, hD0, hE⟩ := hv
  have hx := B.exec
  have hb := B.bytes
  have hr := B.returns
  have hts := atoms_spec (ws := .code yX12_image cX12_image 3 (some .int) :: wsA) B.pre
  have hq : ∀ w ∈ wsA, w.before _ s = true := fun w h => hts w (List.mem_cons_of_mem _ h)
  have hown : s.vm.findClass RX12 = some m.cls := findClass_of_methodNamed B.named
  have hlocks := B.notSynchronized
  subst hsz
  have hD := hD0.self (sz := s.heap.size)
  generalize hAe : va_A [(h0, .inr (12, [.ref s0, .int 0, .int 0, .ref s3, .ref s4, .ref s5, .ref s6, .ref s7, .int 0, .int 0, .int 0, .int 0, .int 0, .int 0, .int 0, .ref s15, .int 0, .ref s17, .int 0, .ref s19, .ref s20, .int (-1), .int 0, .int 0, .int 0, .int 0, .int 0, .ref s27, .int 0, .ref s29, .ref s30, .ref s31, .int 0, .int 0, .int 0, .ref s35, .ref s36, .ref s37, .long 0, .ref s39, .ref s40, .ref s41, .ref s42])), (s42, .inl (k42, 4, .inl (fun _ => 0))), (s40, .inl (k40, 4, .inl g40)), (s41, .inl (k41, 4, .inl g41)), (s39, .inl (k39, 400, .inl g39)), (s20, .inl (k20, 100, .inl (fun _ => 0)))] s.heap.size = A at hD ⊢
  have hA : ∀ q : Nat, s.heap.size ≤ q → A q := fun q h => by rw [← hAe]; exact Or.inr h
  have hS : va_S A s.heap s.heap [] := va_S.rf
  have hl := lv_entry ([.ref h0, .int 1]) (n := 3) (Nat.le_of_ble_eq_true rfl)
  rw [lg_entry_eq]
  generalize (lg_sl ([.ref h0, .int 1]) ++ List.replicate (3 - (lg_sl ([.ref h0, .int 1])).length) Slot.unset).toArray = ls at hl ⊢
  have hl : lv_has ls 3 [(0, .ref h0), (1, .int 1)] := hl
  refine lv_iload_n hx hb dX12_image_0 rfl (lv_at hl 1 rfl) ?_
  refine lv_i2l hx hb dX12_image_1 rfl ?_
  refine lv_topl (fun y_1 ey_1 => ?_)
  obtain rfl : y_1 = 1 := ey_1.trans (by decide)
  refine lv_lconst (v := 0) hx hb dX12_image_2 (by decide) ?_
  refine lv_ldc2 (v := 3) hx hb hown (hq _ qw_1794) dX12_image_3 ?_
  have hPc := hP.sub (ws' := []) [] rfl
  have hDc := hD.sub (ws' := []) [] (by decide) rfl
  have hKc := hK.sub (tys' := []) [] rfl
  have hFc := va_free (wc := []) hD hS hA [] rfl
  refine va_calli (va_runS (As := [.long 1, .long 0, .long 3]) (rest := []) ⟨hx, hb, hml, hown, hq⟩ (c_M_in_1 l dC dI _  ) (cwS 3 hq (gS qw_1364 qw_1365 qw_131 qw_1366) rfl rfl rfl (by decide +kernel) ⟨Nat.le_of_ble_eq_true rfl, Nat.le_of_ble_eq_true rfl⟩) ⟨fun a U g mk q => by obtain ⟨q0, q1, qP, qK, qD, qE⟩ := q; exact ⟨q0, q1, qP, va_K.moved (u := U) (U := U.calling g mk a) (Vm.Alike.refl U.vm) qK, qD, xE.same rfl qE⟩, fun U hU hW => ⟨rfl, by rw [hU], by rw [hU]; exact hPc, va_K.moved hW.alike hKc, hDc.weaken (fun _ _ _ _ => trivial), xE.warm hW hE⟩⟩ rfl rfl hl.1 rfl (lv_room (Nat.le_of_ble_eq_true rfl)) dX12_image_6 ⟨Nat.le_of_ble_eq_true rfl, Nat.le_of_ble_eq_true rfl⟩) hS (fun q _ h => hFc q h) hFc (fun r_2 u t H1 locs ht hvm hw hB hz1 hk1 hS => ?_)
  obtain ⟨hP1, hK1, hD1⟩ := hB
  rw [ht] at hP1
  have hK1 := va_K.moved hvm.symm hK1
  obtain ⟨hP, hD⟩ := va_join (wr := [(h0, .inr (12, [.ref s0, .int 0, .int 0, .ref s3, .ref s4, .ref s5, .ref s6, .ref s7, .int 0, .int 0, .int 0, .int 0, .int 0, .int 0, .int 0, .ref s15, .int 0, .ref s17, .int 0, .ref s19, .ref s20, .int (-1), .int 0, .int 0, .int 0, .int 0, .int 0, .ref s27, .int 0, .ref s29, .ref s30, .ref s31, .int 0, .int 0, .int 0, .ref s35, .ref s36, .ref s37, .long 0, .ref s39, .ref s40, .ref s41, .ref s42])), (s42, .inl (k42, 4, .inl (fun _ => 0))), (s40, .inl (k40, 4, .inl g40)), (s41, .inl (k41, 4, .inl g41)), (s39, .inl (k39, 400, .inl g39)), (s20, .inl (k20, 100, .inl (fun _ => 0)))]) (w1 := []) hP hD [] [0, 1, 2, 3, 4, 5] rfl rfl (by decide) (by decide) hk1 hFc hP1 hD1
  generalize H1 = H at hP hS ⊢
  have hP : va_P (dC, dI) classes [(h0, .inr (12, [.ref s0, .int 0, .int 0, .ref s3, .ref s4, .ref s5, .ref s6, .ref s7, .int 0, .int 0, .int 0, .int 0, .int 0, .int 0, .int 0, .ref s15, .int 0, .ref s17, .int 0, .ref s19, .ref s20, .int (-1), .int 0, .int 0, .int 0, .int 0, .int 0, .ref s27, .int 0, .ref s29, .ref s30, .ref s31, .int 0, .int 0, .int 0, .ref s35, .ref s36, .ref s37, .long 0, .ref s39, .ref s40, .ref s41, .ref s42])), (s42, .inl (k42, 4, .inl (fun _ => 0))), (s40, .inl (k40, 4, .inl g40)), (s41, .inl (k41, 4, .inl g41)), (s39, .inl (k39, 400, .inl g39)), (s20, .inl (k20, 100, .inl (fun _ => 0)))] H := hP
  have hD : va_D A [(h0, .inr (12, [.ref s0, .int 0, .int 0, .ref s3, .ref s4, .ref s5, .ref s6, .ref s7, .int 0, .int 0, .int 0, .int 0, .int 0, .int 0, .int 0, .ref s15, .int 0, .ref s17, .int 0, .ref s19, .ref s20, .int (-1), .int 0, .int 0, .int 0, .int 0, .int 0, .ref s27, .int 0, .ref s29, .ref s30, .ref s31, .int 0, .int 0, .int 0, .ref s35, .ref s36, .ref s37, .long 0, .ref s39, .ref s40, .ref s41, .ref s42])), (s42, .inl (k42, 4, .inl (fun _ => 0))), (s40, .inl (k40, 4, .inl g40)), (s41, .inl (k41, 4, .inl g41)), (s39, .inl (k39, 400, .inl g39)), (s20, .inl (k20, 100, .inl (fun _ => 0)))] := hD
  obtain rfl : r_2 = 1 := hw
  refine lv_if_ne (tgt := 14) hx hb dX12_image_9 (by decide) (fun _ => ?_) (fun c9 => absurd c9 (by decide))
  refine lv_aload_n hx hb dX12_image_14 rfl (lv_at hl 0 rfl) ?_
  refine va_get (D := (dC, dI)) (ci := 12) (v := .ref s42) (C := RX12) (T := TX12) (N := 43) hx hb hq inX12 hown hK hP 0 rfl rfl 42 (by decide) (hq _ qw_1202) (fun _ h9 => h9) rfl dX12_image_15 ?_
  refine lv_iload_n hx hb dX12_image_18 rfl (lv_at hl 1 rfl) ?_
  refine lv_iconst (v := 1) hx hb dX12_image_19 (by decide) ?_
  refine va_zast hx hb hK hP hD hS 1 0 rfl rfl (inr_ok rfl) dX12_image_20 (fun H locs hP hD hS => ?_)
  generalize upd (fun _ => 0) (Int32.toNatClampNeg 1) (vp_nar .boolean 1) = f_3 at hP hD
  have hP : va_P (dC, dI) classes [(h0, .inr (12, [.ref s0, .int 0, .int 0, .ref s3, .ref s4, .ref s5, .ref s6, .ref s7, .int 0, .int 0, .int 0, .int 0, .int 0, .int 0, .int 0, .ref s15, .int 0, .ref s17, .int 0, .ref s19, .ref s20, .int (-1), .int 0, .int 0, .int 0, .int 0, .int 0, .ref s27, .int 0, .ref s29, .ref s30, .ref s31, .int 0, .int 0, .int 0, .ref s35, .ref s36, .ref s37, .long 0, .ref s39, .ref s40, .ref s41, .ref s42])), (s42, .inl (k42, 4, .inl f_3)), (s40, .inl (k40, 4, .inl g40)), (s41, .inl (k41, 4, .inl g41)), (s39, .inl (k39, 400, .inl g39)), (s20, .inl (k20, 100, .inl (fun _ => 0)))] H := hP
  have hD : va_D A [(h0, .inr (12, [.ref s0, .int 0, .int 0, .ref s3, .ref s4, .ref s5, .ref s6, .ref s7, .int 0, .int 0, .int 0, .int 0, .int 0, .int 0, .int 0, .ref s15, .int 0, .ref s17, .int 0, .ref s19, .ref s20, .int (-1), .int 0, .int 0, .int 0, .int 0, .int 0, .ref s27, .int 0, .ref s29, .ref s30, .ref s31, .int 0, .int 0, .int 0, .ref s35, .ref s36, .ref s37, .long 0, .ref s39, .ref s40, .ref s41, .ref s42])), (s42, .inl (k42, 4, .inl f_3)), (s40, .inl (k40, 4, .inl g40)), (s41, .inl (k41, 4, .inl g41)), (s39, .inl (k39, 400, .inl g39)), (s20, .inl (k20, 100, .inl (fun _ => 0)))] := hD
  refine lv_aload_n hx hb dX12_image_21 rfl (lv_at hl 0 rfl) ?_
  refine va_get (D := (dC, dI)) (ci := 12) (v := .ref s40) (C := RX12) (T := TX12) (N := 43) hx hb hq inX12 hown hK hP 0 rfl rfl 40 (by decide) (hq _ qw_1200) (fun _ h9 => h9) rfl dX12_image_22 ?_
  refine lv_iload_n hx hb dX12_image_25 rfl (lv_at hl 1 rfl) ?_
  refine lv_aload_n hx hb dX12_image_26 rfl (lv_at hl 0 rfl) ?_
  refine va_get (D := (dC, dI)) (ci := 12) (v := .int (-1)) (C := RX12) (T := TX12) (N := 43) hx hb hq inX12 hown hK hP 0 rfl rfl 21 (by decide) (hq _ qw_1181) (fun _ h9 => h9) rfl dX12_image_27 ?_
  refine va_iast hx hb hK hP hD hS 2 1 rfl rfl (inr_ok rfl) dX12_image_30 (fun H locs hP hD hS => ?_)
  generalize upd g40 (Int32.toNatClampNeg 1) (-1) = f_4 at hP hD
  have hP : va_P (dC, dI) classes [(h0, .inr (12, [.ref s0, .int 0, .int 0, .ref s3, .ref s4, .ref s5, .ref s6, .ref s7, .int 0, .int 0, .int 0, .int 0, .int 0, .int 0, .int 0, .ref s15, .int 0, .ref s17, .int 0, .ref s19, .ref s20, .int (-1), .int 0, .int 0, .int 0, .int 0, .int 0, .ref s27, .int 0, .ref s29, .ref s30, .ref s31, .int 0, .int 0, .int 0, .ref s35, .ref s36, .ref s37, .long 0, .ref s39, .ref s40, .ref s41, .ref s42])), (s42, .inl (k42, 4, .inl f_3)), (s40, .inl (k40, 4, .inl f_4)), (s41, .inl (k41, 4, .inl g41)), (s39, .inl (k39, 400, .inl g39)), (s20, .inl (k20, 100, .inl (fun _ => 0)))] H := hP
  have hD : va_D A [(h0, .inr (12, [.ref s0, .int 0, .int 0, .ref s3, .ref s4, .ref s5, .ref s6, .ref s7, .int 0, .int 0, .int 0, .int 0, .int 0, .int 0, .int 0, .ref s15, .int 0, .ref s17, .int 0, .ref s19, .ref s20, .int (-1), .int 0, .int 0, .int 0, .int 0, .int 0, .ref s27, .int 0, .ref s29, .ref s30, .ref s31, .int 0, .int 0, .int 0, .ref s35, .ref s36, .ref s37, .long 0, .ref s39, .ref s40, .ref s41, .ref s42])), (s42, .inl (k42, 4, .inl f_3)), (s40, .inl (k40, 4, .inl f_4)), (s41, .inl (k41, 4, .inl g41)), (s39, .inl (k39, 400, .inl g39)), (s20, .inl (k20, 100, .inl (fun _ => 0)))] := hD
  refine lv_aload_n hx hb dX12_image_31 rfl (lv_at hl 0 rfl) ?_
  refine va_get (D := (dC, dI)) (ci := 12) (v := .ref s41) (C := RX12) (T := TX12) (N := 43) hx hb hq inX12 hown hK hP 0 rfl rfl 41 (by decide) (hq _ qw_1201) (fun _ h9 => h9) rfl dX12_image_32 ?_
  refine lv_iload_n hx hb dX12_image_35 rfl (lv_at hl 1 rfl) ?_
  refine lv_aload_n hx hb dX12_image_36 rfl (lv_at hl 0 rfl) ?_
  refine va_get (D := (dC, dI)) (ci := 12) (v := .int 0) (C := RX12) (T := TX12) (N := 43) hx hb hq inX12 hown hK hP 0 rfl rfl 22 (by decide) (hq _ qw_1182) (fun _ h9 => h9) rfl dX12_image_37 ?_
  refine va_iast hx hb hK hP hD hS 3 2 rfl rfl (inr_ok rfl) dX12_image_40 (fun H locs hP hD hS => ?_)
  generalize upd g41 (Int32.toNatClampNeg 1) 0 = f_5 at hP hD
  have hP : va_P (dC, dI) classes [(h0, .inr (12, [.ref s0, .int 0, .int 0, .ref s3, .ref s4, .ref s5, .ref s6, .ref s7, .int 0, .int 0, .int 0, .int 0, .int 0, .int 0, .int 0, .ref s15, .int 0, .ref s17, .int 0, .ref s19, .ref s20, .int (-1), .int 0, .int 0, .int 0, .int 0, .int 0, .ref s27, .int 0, .ref s29, .ref s30, .ref s31, .int 0, .int 0, .int 0, .ref s35, .ref s36, .ref s37, .long 0, .ref s39, .ref s40, .ref s41, .ref s42])), (s42, .inl (k42, 4, .inl f_3)), (s40, .inl (k40, 4, .inl f_4)), (s41, .inl (k41, 4, .inl f_5)), (s39, .inl (k39, 400, .inl g39)), (s20, .inl (k20, 100, .inl (fun _ => 0)))] H := hP
  have hD : va_D A [(h0, .inr (12, [.ref s0, .int 0, .int 0, .ref s3, .ref s4, .ref s5, .ref s6, .ref s7, .int 0, .int 0, .int 0, .int 0, .int 0, .int 0, .int 0, .ref s15, .int 0, .ref s17, .int 0, .ref s19, .ref s20, .int (-1), .int 0, .int 0, .int 0, .int 0, .int 0, .ref s27, .int 0, .ref s29, .ref s30, .ref s31, .int 0, .int 0, .int 0, .ref s35, .ref s36, .ref s37, .long 0, .ref s39, .ref s40, .ref s41, .ref s42])), (s42, .inl (k42, 4, .inl f_3)), (s40, .inl (k40, 4, .inl f_4)), (s41, .inl (k41, 4, .inl f_5)), (s39, .inl (k39, 400, .inl g39)), (s20, .inl (k20, 100, .inl (fun _ => 0)))] := hD
  refine lv_iconst (v := 0) hx hb dX12_image_41 (by decide) ?_
  refine lv_istore_n (lv' := [(2, .int 0), (0, .ref h0), (1, .int 1)]) hx hb dX12_image_42 rfl hl (by decide) rfl (fun ls hl => ?_)
  refine lp_M_image_1 hx hb hown hq hK (fun f_6 H locs ls hP hD hS hl => ?_) 100 0 rfl 0 rfl _ _ _ _ hP hD hS hl
  refine lv_aload_n hx hb dX12_image_72 rfl (lv_at hl 1 rfl) ?_
  refine va_get (D := (dC, dI)) (ci := 12) (v := .ref s20) (C := RX12) (T := TX12) (N := 43) hx hb hq inX12 hown hK hP 0 rfl rfl 20 (by decide) (hq _ qw_1180) (fun _ h9 => h9) rfl dX12_image_73 ?_
  refine lv_bipush (v := 10) hx hb dX12_image_76 (by decide) ?_
  refine va_iald hx hb hK hP 5 4 rfl rfl (inr_ok rfl) dX12_image_78 ?_
  refine lv_topi (fun y_7 ey_7 => ?_)
  obtain rfl : y_7 = 0 := ey_7.trans (rfl)
  refine W.widen (k := 0) (n := 0) (Nat.le_of_ble_eq_true rfl) (Nat.le_of_ble_eq_true rfl) ?_
  exact W.iret (v := 0) hx hb hr (fun t ht hW => ⟨⟨0, (), rfl, rfl, trivial⟩, hS.F ht⟩) hS.2.2 dX12_image_79

set_option maxHeartbeats 4000000 in
set_option maxRecDepth 100000 in
/-- c_M_back_1 -/
theorem c_M_back_1 (l : Launch) (dC : Nat → ClassId) (dI : Nat → Nat → Nat) (sz : Nat) (h0 : Nat) (s0 : Nat) (s3 : Nat) (s4 : Nat) (s5 : Nat) (s6 : Nat) (s7 : Nat) (s15 : Nat) (s17 : Nat) (s19 : Nat) (s20 : Nat) (s27 : Nat) (s29 : Nat) (s30 : Nat) (s31 : Nat) (s35 : Nat) (s36 : Nat) (s37 : Nat) (s39 : Nat) (s40 : Nat) (s41 : Nat) (s42 : Nat) (k42 : ClassId) : Met l yX12_back (.code yX12_back cX12_back 3 (some .int) :: wsA) ({ frames := 1, cells := 0, slots := 0, locals := 25 }) (va_Pc [.ref h0, .int 1] (fun U => U.heap.size = sz ∧ va_P (dC, dI) classes [(h0, .inr (12, [.ref s0, .int 0, .int 0, .ref s3, .ref s4, .ref s5, .ref s6, .ref s7, .int 0, .int 0, .int 0, .int 0, .int 0, .int 0, .int 0, .ref s15, .int 0, .ref s17, .int 0, .ref s19, .ref s20, .int (-1), .int 0, .int 0, .int 0, .int 0, .int 0, .ref s27, .int 0, .ref s29, .ref s30, .ref s31, .int 0, .int 0, .int 0, .ref s35, .ref s36, .ref s37, .long 0, .ref s39, .ref s40, .ref s41, .ref s42])), (s42, .inl (k42, 4, .inl (fun _ => 0)))] U.heap ∧ va_K (dC, dI) classes [(k42, .boolean)] U ∧ va_D (fun _ => True) [(h0, .inr (12, [.ref s0, .int 0, .int 0, .ref s3, .ref s4, .ref s5, .ref s6, .ref s7, .int 0, .int 0, .int 0, .int 0, .int 0, .int 0, .int 0, .ref s15, .int 0, .ref s17, .int 0, .ref s19, .ref s20, .int (-1), .int 0, .int 0, .int 0, .int 0, .int 0, .ref s27, .int 0, .ref s29, .ref s30, .ref s31, .int 0, .int 0, .int 0, .ref s35, .ref s36, .ref s37, .long 0, .ref s39, .ref s40, .ref s41, .ref s42])), (s42, .inl (k42, 4, .inl (fun _ => 0)))] ∧ xE U)) (va_Qi (fun (r : Int32) (_ : Unit) => r = (-1)) (fun _ _ => True) (va_A [(h0, .inr (12, [.ref s0, .int 0, .int 0, .ref s3, .ref s4, .ref s5, .ref s6, .ref s7, .int 0, .int 0, .int 0, .int 0, .int 0, .int 0, .int 0, .ref s15, .int 0, .ref s17, .int 0, .ref s19, .ref s20, .int (-1), .int 0, .int 0, .int 0, .int 0, .int 0, .ref s27, .int 0, .ref s29, .ref s30, .ref s31, .int 0, .int 0, .int 0, .ref s35, .ref s36, .ref s37, .long 0, .ref s39, .ref s40, .ref s41, .ref s42])), (s42, .inl (k42, 4, .inl (fun _ => 0)))] sz)) 0 0 (va_A [(h0, .inr (12, [.ref s0, .int 0, .int 0, .ref s3, .ref s4, .ref s5, .ref s6, .ref s7, .int 0, .int 0, .int 0, .int 0, .int 0, .int 0, .int 0, .ref s15, .int 0, .ref s17, .int 0, .ref s19, .ref s20, .int (-1), .int 0, .int 0, .int 0, .int 0, .int 0, .ref s27, .int 0, .ref s29, .ref s30, .ref s31, .int 0, .int 0, .int 0, .ref s35, .ref s36, .ref s37, .long 0, .ref s39, .ref s40, .ref s41, .ref s42])), (s42, .inl (k42, 4, .inl (fun _ => 0)))] sz) := by
  refine Met.ofW (cc := cX12_back) (maxL := 3) (ret := (some .int)) (by decide) rfl ?_
  intro p e s m args below meth c s₁ B hml hv
  obtain ⟨rfl, hsz, hP, hK, hD0, hE⟩ := hv
  have hx := B.exec
  have hb := B.bytes
  have hr := B.returns
  have hts := atoms_spec (ws := .code yX12_back cX12_back 3 (some .int) :: wsA) B.pre
  have hq : ∀ w ∈ wsA, w.before _ s = true := fun w h => hts w (List.mem_cons_of_mem _ h)
  have hown : s.vm.findClass RX12 = some m.cls := findClass_of_methodNamed B.named
  have hlocks := B.notSynchronized
  subst hsz
  have hD := hD0.self (sz := s.heap.size)
  generalize hAe : va_A [(h0, .inr (12, [.ref s0, .int 0, .int 0, .ref s3, .ref s4, .ref s5, .ref s6, .ref s7, .int 0, .int 0, .int 0, .int 0, .int 0, .int 0, .int 0, .ref s15, .int 0, .ref s17, .int 0, .ref s19, .ref s20, .int (-1), .int 0, .int 0, .int 0, .int 0, .int 0, .ref s27, .int 0, .ref s29, .ref s30, .ref s31, .int 0, .int 0, .int 0, .ref s35, .ref s36, .ref s37, .long 0, .ref s39, .ref s40, .ref s41, .ref s42])), (s42, .inl (k42, 4, .inl (fun _ => 0)))] s.heap.size = A at hD ⊢
  have hA : ∀ q : Nat, s.heap.size ≤ q → A q := fun q h => by rw [← hAe]; exact Or.inr h
  have hS : va_S A s.heap s.heap [] := va_S.rf
  have hl := lv_entry ([.ref h0, .int 1]) (n := 3) (Nat.le_of_ble_eq_true rfl)
  rw [lg_entry_eq]
  generalize (lg_sl ([.ref h0, .int 1]) ++ List.replicate (3 - (lg_sl ([.ref h0, .int 1])).length) Slot.unset).toArray = ls at hl ⊢
  have hl : lv_has ls 3 [(0, .ref h0), (1, .int 1)] := hl
  refine lv_iload_n hx hb dX12_back_0 rfl (lv_at hl 1 rfl) ?_
  refine lv_i2l hx hb dX12_back_1 rfl ?_
  refine lv_topl (fun y_1 ey_1 => ?_)
  obtain rfl : y_1 = 1 := ey_1.trans (by decide)
  refine lv_lconst (v := 0) hx hb dX12_back_2 (by decide) ?_
  refine lv_ldc2 (v := 3) hx hb hown (hq _ qw_1794) dX12_back_3 ?_
  have hPc := hP.sub (ws' := []) [] rfl
  have hDc := hD.sub (ws' := []) [] (by decide) rfl
  have hKc := hK.sub (tys' := []) [] rfl
  have hFc := va_free (wc := []) hD hS hA [] rfl
  refine va_calli (va_runS (As := [.long 1, .long 0, .long 3]) (rest := []) ⟨hx, hb, hml, hown, hq⟩ (c_M_in_1 l dC dI _  ) (cwS 3 hq (gS qw_1364 qw_1365 qw_131 qw_1366) rfl rfl rfl (by decide +kernel) ⟨Nat.le_of_ble_eq_true rfl, Nat.le_of_ble_eq_true rfl⟩) ⟨fun a U g mk q => by obtain ⟨q0, q1, qP, qK, qD, qE⟩ := q; exact ⟨q0, q1, qP, va_K.moved (u := U) (U := U.calling g mk a) (Vm.Alike.refl U.vm) qK, qD, xE.same rfl qE⟩, fun U hU hW => ⟨rfl, by rw [hU], by rw [hU]; exact hPc, va_K.moved hW.alike hKc, hDc.weaken (fun _ _ _ _ => trivial), xE.warm hW hE⟩⟩ rfl rfl hl.1 rfl (lv_room (Nat.le_of_ble_eq_true rfl)) dX12_back_6 ⟨Nat.le_of_ble_eq_true rfl, Nat.le_of_ble_eq_true rfl⟩) hS (fun q _ h => hFc q h) hFc (fun r_2 u t H1 locs ht hvm hw hB hz1 hk1 hS => ?_)
  obtain ⟨hP1, hK1, hD1⟩ := hB
  rw [ht] at hP1
  have hK1 := va_K.moved hvm.symm hK1
  obtain ⟨hP, hD⟩ := va_join (wr := [(h0, .inr (12, [.ref s0, .int 0, .int 0, .ref s3, .ref s4, .ref s5, .ref s6, .ref s7, .int 0, .int 0, .int 0, .int 0, .int 0, .int 0, .int 0, .ref s15, .int 0, .ref s17, .int 0, .ref s19, .ref s20, .int (-1), .int 0, .int 0, .int 0, .int 0, .int 0, .ref s27, .int 0, .ref s29, .ref s30, .ref s31, .int 0, .int 0, .int 0, .ref s35, .ref s36, .ref s37, .long 0, .ref s39, .ref s40, .ref s41, .ref s42])), (s42, .inl (k42, 4, .inl (fun _ => 0)))]) (w1 := []) hP hD [] [0, 1] rfl rfl (by decide) (by decide) hk1 hFc hP1 hD1
  generalize H1 = H at hP hS ⊢
  have hP : va_P (dC, dI) classes [(h0, .inr (12, [.ref s0, .int 0, .int 0, .ref s3, .ref s4, .ref s5, .ref s6, .ref s7, .int 0, .int 0, .int 0, .int 0, .int 0, .int 0, .int 0, .ref s15, .int 0, .ref s17, .int 0, .ref s19, .ref s20, .int (-1), .int 0, .int 0, .int 0, .int 0, .int 0, .ref s27, .int 0, .ref s29, .ref s30, .ref s31, .int 0, .int 0, .int 0, .ref s35, .ref s36, .ref s37, .long 0, .ref s39, .ref s40, .ref s41, .ref s42])), (s42, .inl (k42, 4, .inl (fun _ => 0)))] H := hP
  have hD : va_D A [(h0, .inr (12, [.ref s0, .int 0, .int 0, .ref s3, .ref s4, .ref s5, .ref s6, .ref s7, .int 0, .int 0, .int 0, .int 0, .int 0, .int 0, .int 0, .ref s15, .int 0, .ref s17, .int 0, .ref s19, .ref s20, .int (-1), .int 0, .int 0, .int 0, .int 0, .int 0, .ref s27, .int 0, .ref s29, .ref s30, .ref s31, .int 0, .int 0, .int 0, .ref s35, .ref s36, .ref s37, .long 0, .ref s39, .ref s40, .ref s41, .ref s42])), (s42, .inl (k42, 4, .inl (fun _ => 0)))] := hD
  obtain rfl : r_2 = 1 := hw
  refine lv_if_eq (tgt := 21) hx hb dX12_back_9 (by decide) (fun c9 => absurd c9 (by decide)) (fun _ => ?_)
  refine lv_aload_n hx hb dX12_back_12 rfl (lv_at hl 0 rfl) ?_
  refine va_get (D := (dC, dI)) (ci := 12) (v := .ref s42) (C := RX12) (T := TX12) (N := 43) hx hb hq inX12 hown hK hP 0 rfl rfl 42 (by decide) (hq _ qw_1202) (fun _ h9 => h9) rfl dX12_back_13 ?_
  refine lv_iload_n hx hb dX12_back_16 rfl (lv_at hl 1 rfl) ?_
  refine va_zald hx hb hK hP 1 0 rfl rfl (inr_ok rfl) dX12_back_17 ?_
  refine lv_topi (fun y_3 ey_3 => ?_)
  obtain rfl : y_3 = 0 := ey_3.trans (rfl)
  refine lv_if_ne (tgt := 23) hx hb dX12_back_18 (by decide) (fun c9 => absurd c9 (by decide)) (fun _ => ?_)
  refine lv_iconst (v := (-1)) hx hb dX12_back_21 (by decide) ?_
  refine W.widen (k := 0) (n := 0) (Nat.le_of_ble_eq_true rfl) (Nat.le_of_ble_eq_true rfl) ?_
  exact W.iret (v := (-1)) hx hb hr (fun t ht hW => ⟨⟨(-1), (), rfl, rfl, trivial⟩, hS.F ht⟩) hS.2.2 dX12_back_22

set_option maxHeartbeats 4000000 in
set_option maxRecDepth 100000 in
/-- c_M_image_2 -/
theorem c_M_image_2 (l : Launch) (dC : Nat → ClassId) (dI : Nat → Nat → Nat) (sz : Nat) (h0 : Nat) (s0 : Nat) (s3 : Nat) (s4 : Nat) (s5 : Nat) (s6 : Nat) (s7 : Nat) (s15 : Nat) (s17 : Nat) (s19 : Nat) (s20 : Nat) (s27 : Nat) (s29 : Nat) (s30 : Nat) (s31 : Nat) (s35 : Nat) (s36 : Nat) (s37 : Nat) (s39 : Nat) (s40 : Nat) (s41 : Nat) (s42 : Nat) (k42 : ClassId) (k40 : ClassId) (g40 : Nat → Int32) (k41 : ClassId) (g41 : Nat → Int32) (k39 : ClassId) (g39 : Nat → Int32) (k20 : ClassId) : Met l yX12_image (.code yX12_image cX12_image 3 (some .int) :: wsA) ({ frames := 1, cells := 0, slots := 0, locals := 25 }) (va_Pc [.ref h0, .int 2] (fun U => U.heap.size = sz ∧ va_P (dC, dI) classes [(h0, .inr (12, [.ref s0, .int 0, .int 0, .ref s3, .ref s4, .ref s5, .ref s6, .ref s7, .int 0, .int 0, .int 0, .int 0, .int 0, .int 0, .int 0, .ref s15, .int 0, .ref s17, .int 0, .ref s19, .ref s20, .int (-1), .int 0, .int 0, .int 0, .int 0, .int 0, .ref s27, .int 0, .ref s29, .ref s30, .ref s31, .int 0, .int 0, .int 0, .ref s35, .ref s36, .ref s37, .long 0, .ref s39, .ref s40, .ref s41, .ref s42])), (s42, .inl (k42, 4, .inl (fun _ => 0))), (s40, .inl (k40, 4, .inl g40)), (s41, .inl (k41, 4, .inl g41)), (s39, .inl (k39, 400, .inl g39)), (s20, .inl (k20, 100, .inl (fun _ => 0)))] U.heap ∧ va_K (dC, dI) classes [(k42, .boolean), (k40, .int), (k41, .int), (k39, .int), (k20, .int)] U ∧ va_D (fun _ => True) [(h0, .inr (12, [.ref s0, .int 0, .int 0, .ref s3, .ref s4, .ref s5, .ref s6, .ref s7, .int 0, .int 0, .int 0, .int 0, .int 0, .int 0, .int 0, .ref s15, .int 0, .ref s17, .int 0, .ref s19, .ref s20, .int (-1), .int 0, .int 0, .int 0, .int 0, .int 0, .ref s27, .int 0, .ref s29, .ref s30, .ref s31, .int 0, .int 0, .int 0, .ref s35, .ref s36, .ref s37, .long 0, .ref s39, .ref s40, .ref s41, .ref s42])), (s42, .inl (k42, 4, .inl (fun _ => 0))), (s40, .inl (k40, 4, .inl g40)), (s41, .inl (k41, 4, .inl g41)), (s39, .inl (k39, 400, .inl g39)), (s20, .inl (k20, 100, .inl (fun _ => 0)))] ∧ xE U)) (va_Qi (fun (r : Int32) (_ : Unit) => r = 0) (fun _ _ => True) (va_A [(h0, .inr (12, [.ref s0, .int 0, .int 0, .ref s3, .ref s4, .ref s5, .ref s6, .ref s7, .int 0, .int 0, .int 0, .int 0, .int 0, .int 0, .int 0, .ref s15, .int 0, .ref s17, .int 0, .ref s19, .ref s20, .int (-1), .int 0, .int 0, .int 0, .int 0, .int 0, .ref s27, .int 0, .ref s29, .ref s30, .ref s31, .int 0, .int 0, .int 0, .ref s35, .ref s36, .ref s37, .long 0, .ref s39, .ref s40, .ref s41, .ref s42])), (s42, .inl (k42, 4, .inl (fun _ => 0))), (s40, .inl (k40, 4, .inl g40)), (s41, .inl (k41, 4, .inl g41)), (s39, .inl (k39, 400, .inl g39)), (s20, .inl (k20, 100, .inl (fun _ => 0)))] sz)) 0 0 (va_A [(h0, .inr (12, [.ref s0, .int 0, .int 0, .ref s3, .ref s4, .ref s5, .ref s6, .ref s7, .int 0, .int 0, .int 0, .int 0, .int 0, .int 0, .int 0, .ref s15, .int 0, .ref s17, .int 0, .ref s19, .ref s20, .int (-1), .int 0, .int 0, .int 0, .int 0, .int 0, .ref s27, .int 0, .ref s29, .ref s30, .ref s31, .int 0, .int 0, .int 0, .ref s35, .ref s36, .ref s37, .long 0, .ref s39, .ref s40, .ref s41, .ref s42])), (s42, .inl (k42, 4, .inl (fun _ => 0))), (s40, .inl (k40, 4, .inl g40)), (s41, .inl (k41, 4, .inl g41)), (s39, .inl (k39, 400, .inl g39)), (s20, .inl (k20, 100, .inl (fun _ => 0)))] sz) := by
  refine Met.ofW (cc := cX12_image) (maxL := 3) (ret := (some .int)) (by decide) rfl ?_
  intro p e s m args below meth c s₁ B hml hv
  obtain ⟨rfl, hsz, hP, hK, hD0, hE⟩ := hv
  have hx := B.exec
  have hb := B.bytes
  have hr := B.returns
  have hts := atoms_spec (ws := .code yX12_image cX12_image 3 (some .int) :: wsA) B.pre
  have hq : ∀ w ∈ wsA, w.before _ s = true := fun w h => hts w (List.mem_cons_of_mem _ h)
  have hown : s.vm.findClass RX12 = some m.cls := findClass_of_methodNamed B.named
  have hlocks := B.notSynchronized
  subst hsz
  have hD := hD0.self (sz := s.heap.size)
  generalize hAe : va_A [(h0, .inr (12, [.ref s0, .int 0, .int 0, .ref s3, .ref s4, .ref s5, .ref s6, .ref s7, .int 0, .int 0, .int 0, .int 0, .int 0, .int 0, .int 0, .ref s15, .int 0, .ref s17, .int 0, .ref s19, .ref s20, .int (-1), .int 0, .int 0, .int 0, .int 0, .int 0, .ref s27, .int 0, .ref s29, .ref s30, .ref s31, .int 0, .int 0, .int 0, .ref s35, .ref s36, .ref s37, .long 0, .ref s39, .ref s40, .ref s41, .ref s42])), (s42, .inl (k42, 4, .inl (fun _ => 0))), (s40, .inl (k40, 4, .inl g40)), (s41, .inl (k41, 4, .inl g41)), (s39, .inl (k39, 400, .inl g39)), (s20, .inl (k20, 100, .inl (fun _ => 0)))] s.heap.size = A at hD ⊢
  have hA : ∀ q : Nat, s.heap.size ≤ q → A q := fun q h => by rw [← hAe]; exact Or.inr h
  have hS : va_S A s.heap s.heap [] := va_S.rf
  have hl := lv_entry ([.ref h0, .int 2]) (n := 3) (Nat.le_of_ble_eq_true rfl)
  rw [lg_entry_eq]
  generalize (lg_sl ([.ref h0, .int 2]) ++ List.replicate (3 - (lg_sl ([.ref h0, .int 2])).length) Slot.unset).toArray = ls at hl ⊢
  have hl : lv_has ls 3 [(0, .ref h0), (1, .int 2)] := hl
  refine lv_iload_n hx hb dX12_image_0 rfl (lv_at hl 1 rfl) ?_
  refine lv_i2l hx hb dX12_image_1 rfl ?_
  refine lv_topl (fun y_1 ey_1 => ?_)
  obtain rfl : y_1 = 2 := ey_1.trans (by decide)
  refine lv_lconst (v := 0) hx hb dX12_image_2 (by decide) ?_
  refine lv_ldc2 (v := 3) hx hb hown (hq _ qw_1794) dX12_image_3 ?_
  have hPc := hP.sub (ws' := []) [] rfl
  have hDc := hD.sub (ws' := []) [] (by decide) rfl
  have hKc := hK.sub (tys' := []) [] rfl
  have hFc := va_free (wc := []) hD hS hA [] rfl
  refine va_calli (va_runS (As := [.long 2, .long 0, .long 3]) (rest := []) ⟨hx, hb, hml, hown, hq⟩ (c_M_in_2 l dC dI _  ) (cwS 3 hq (gS qw_1364 qw_1365 qw_131 qw_1366) rfl rfl rfl (by decide +kernel) ⟨Nat.le_of_ble_eq_true rfl, Nat.le_of_ble_eq_true rfl⟩) ⟨fun a U g mk q => by obtain ⟨q0, q1, qP, qK, qD, qE⟩ := q; exact ⟨q0, q1, qP, va_K.moved (u := U) (U := U.calling g mk a) (Vm.Alike.refl U.vm) qK, qD, xE.same rfl qE⟩, fun U hU hW => ⟨rfl, by rw [hU], by rw [hU]; exact hPc, va_K.moved hW.alike hKc, hDc.weaken (fun _ _ _ _ => trivial), xE.warm hW hE⟩⟩ rfl rfl hl.1 rfl (lv_room (Nat.le_of_ble_eq_true rfl)) dX12_image_6 ⟨Nat.le_of_ble_eq_true rfl, Nat.le_of_ble_eq_true rfl⟩) hS (fun q _ h => hFc q h) hFc (fun r_2 u t H1 locs ht hvm hw hB hz1 hk1 hS => ?_)
  obtain ⟨hP1, hK1, hD1⟩ := hB
  rw [ht] at hP1
  have hK1 := va_K.moved hvm.symm hK1
  obtain ⟨hP, hD⟩ := va_join (wr := [(h0, .inr (12, [.ref s0, .int 0, .int 0, .ref s3, .ref s4, .ref s5, .ref s6, .ref s7, .int 0, .int 0, .int 0, .int 0, .int 0, .int 0, .int 0, .ref s15, .int 0, .ref s17, .int 0, .ref s19, .ref s20, .int (-1), .int 0, .int 0, .int 0, .int 0, .int 0, .ref s27, .int 0, .ref s29, .ref s30, .ref s31, .int 0, .int 0, .int 0, .ref s35, .ref s36, .ref s37, .long 0, .ref s39, .ref s40, .ref s41, .ref s42])), (s42, .inl (k42, 4, .inl (fun _ => 0))), (s40, .inl (k40, 4, .inl g40)), (s41, .inl (k41, 4, .inl g41)), (s39, .inl (k39, 400, .inl g39)), (s20, .inl (k20, 100, .inl (fun _ => 0)))]) (w1 := []) hP hD [] [0, 1, 2, 3, 4, 5] rfl rfl (by decide) (by decide) hk1 hFc hP1 hD1
  generalize H1 = H at hP hS ⊢
  have hP : va_P (dC, dI) classes [(h0, .inr (12, [.ref s0, .int 0, .int 0, .ref s3, .ref s4, .ref s5, .ref s6, .ref s7, .int 0, .int 0, .int 0, .int 0, .int 0, .int 0, .int 0, .ref s15, .int 0, .ref s17, .int 0, .ref s19, .ref s20, .int (-1), .int 0, .int 0, .int 0, .int 0, .int 0, .ref s27, .int 0, .ref s29, .ref s30, .ref s31, .int 0, .int 0, .int 0, .ref s35, .ref s36, .ref s37, .long 0, .ref s39, .ref s40, .ref s41, .ref s42])), (s42, .inl (k42, 4, .inl (fun _ => 0))), (s40, .inl (k40, 4, .inl g40)), (s41, .inl (k41, 4, .inl g41)), (s39, .inl (k39, 400, .inl g39)), (s20, .inl (k20, 100, .inl (fun _ => 0)))] H := hP
  have hD : va_D A [(h0, .inr (12, [.ref s0, .int 0, .int 0, .ref s3, .ref s4, .ref s5, .ref s6, .ref s7, .int 0, .int 0, .int 0, .int 0, .int 0, .int 0, .int 0, .ref s15, .int 0, .ref s17, .int 0, .ref s19, .ref s20, .int (-1), .int 0, .int 0, .int 0, .int 0, .int 0, .ref s27, .int 0, .ref s29, .ref s30, .ref s31, .int 0, .int 0, .int 0, .ref s35, .ref s36, .ref s37, .long 0, .ref s39, .ref s40, .ref s41, .ref s42])), (s42, .inl (k42, 4, .inl (fun _ => 0))), (s40, .inl (k40, 4, .inl g40)), (s41, .inl (k41, 4, .inl g41)), (s39, .inl (k39, 400, .inl g39)), (s20, .inl (k20, 100, .inl (fun _ => 0)))] := hD
  obtain rfl : r_2 = 1 := hw
  refine lv_if_ne (tgt := 14) hx hb dX12_image_9 (by decide) (fun _ => ?_) (fun c9 => absurd c9 (by decide))
  refine lv_aload_n hx hb dX12_image_14 rfl (lv_at hl 0 rfl) ?_
  refine va_get (D := (dC, dI)) (ci := 12) (v := .ref s42) (C := RX12) (T := TX12) (N := 43) hx hb hq inX12 hown hK hP 0 rfl rfl 42 (by decide) (hq _ qw_1202) (fun _ h9 => h9) rfl dX12_image_15 ?_
  refine lv_iload_n hx hb dX12_image_18 rfl (lv_at hl 1 rfl) ?_
  refine lv_iconst (v := 1) hx hb dX12_image_19 (by decide) ?_
  refine va_zast hx hb hK hP hD hS 1 0 rfl rfl (inr_ok rfl) dX12_image_20 (fun H locs hP hD hS => ?_)
  generalize upd (fun _ => 0) (Int32.toNatClampNeg 2) (vp_nar .boolean 1) = f_3 at hP hD
  have hP : va_P (dC, dI) classes [(h0, .inr (12, [.ref s0, .int 0, .int 0, .ref s3, .ref s4, .ref s5, .ref s6, .ref s7, .int 0, .int 0, .int 0, .int 0, .int 0, .int 0, .int 0, .ref s15, .int 0, .ref s17, .int 0, .ref s19, .ref s20, .int (-1), .int 0, .int 0, .int 0, .int 0, .int 0, .ref s27, .int 0, .ref s29, .ref s30, .ref s31, .int 0, .int 0, .int 0, .ref s35, .ref s36, .ref s37, .long 0, .ref s39, .ref s40, .ref s41, .ref s42])), (s42, .inl (k42, 4, .inl f_3)), (s40, .inl (k40, 4, .inl g40)), (s41, .inl (k41, 4, .inl g41)), (s39, .inl (k39, 400, .inl g39)), (s20, .inl (k20, 100, .inl (fun _ => 0)))] H := hP
  have hD : va_D A [(h0, .inr (12, [.ref s0, .int 0, .int 0, .ref s3, .ref s4, .ref s5, .ref s6, .ref s7, .int 0, .int 0, .int 0, .int 0, .int 0, .int 0, .int 0, .ref s15, .int 0, .ref s17, .int 0, .ref s19, .ref s20, .int (-1), .int 0, .int 0, .int 0, .int 0, .int 0, .ref s27, .int 0, .ref s29, .ref s30, .ref s31, .int 0, .int 0, .int 0, .ref s35, .ref s36, .ref s37, .long 0, .ref s39, .ref s40, .ref s41, .ref s42])), (s42, .inl (k42, 4, .inl f_3)), (s40, .inl (k40, 4, .inl g40)), (s41, .inl (k41, 4, .inl g41)), (s39, .inl (k39, 400, .inl g39)), (s20, .inl (k20, 100, .inl (fun _ => 0)))] := hD
  refine lv_aload_n hx hb dX12_image_21 rfl (lv_at hl 0 rfl) ?_
  refine va_get (D := (dC, dI)) (ci := 12) (v := .ref s40) (C := RX12) (T := TX12) (N := 43) hx hb hq inX12 hown hK hP 0 rfl rfl 40 (by decide) (hq _ qw_1200) (fun _ h9 => h9) rfl dX12_image_22 ?_
  refine lv_iload_n hx hb dX12_image_25 rfl (lv_at hl 1 rfl) ?_
  refine lv_aload_n hx hb dX12_image_26 rfl (lv_at hl 0 rfl) ?_
  refine va_get (D := (dC, dI)) (ci := 12) (v := .int (-1)) (C := RX12) (T := TX12) (N := 43) hx hb hq inX12 hown hK hP 0 rfl rfl 21 (by decide) (hq _ qw_1181) (fun _ h9 => h9) rfl dX12_image_27 ?_
  refine va_iast hx hb hK hP hD hS 2 1 rfl rfl (inr_ok rfl) dX12_image_30 (fun H locs hP hD hS => ?_)
  generalize upd g40 (Int32.toNatClampNeg 2) (-1) = f_4 at hP hD
  have hP : va_P (dC, dI) classes [(h0, .inr (12, [.ref s0, .int 0, .int 0, .ref s3, .ref s4, .ref s5, .ref s6, .ref s7, .int 0, .int 0, .int 0, .int 0, .int 0, .int 0, .int 0, .ref s15, .int 0, .ref s17, .int 0, .ref s19, .ref s20, .int (-1), .int 0, .int 0, .int 0, .int 0, .int 0, .ref s27, .int 0, .ref s29, .ref s30, .ref s31, .int 0, .int 0, .int 0, .ref s35, .ref s36, .ref s37, .long 0, .ref s39, .ref s40, .ref s41, .ref s42])), (s42, .inl (k42, 4, .inl f_3)), (s40, .inl (k40, 4, .inl f_4)), (s41, .inl (k41, 4, .inl g41)), (s39, .inl (k39, 400, .inl g39)), (s20, .inl (k20, 100, .inl (fun _ => 0)))] H := hP
  have hD : va_D A [(h0, .inr (12, [.ref s0, .int 0, .int 0, .ref s3, .ref s4, .ref s5, .ref s6, .ref s7, .int 0, .int 0, .int 0, .int 0, .int 0, .int 0, .int 0, .ref s15, .int 0, .ref s17, .int 0, .ref s19, .ref s20, .int (-1), .int 0, .int 0, .int 0, .int 0, .int 0, .ref s27, .int 0, .ref s29, .ref s30, .ref s31, .int 0, .int 0, .int 0, .ref s35, .ref s36, .ref s37, .long 0, .ref s39, .ref s40, .ref s41, .ref s42])), (s42, .inl (k42, 4, .inl f_3)), (s40, .inl (k40, 4, .inl f_4)), (s41, .inl (k41, 4, .inl g41)), (s39, .inl (k39, 400, .inl g39)), (s20, .inl (k20, 100, .inl (fun _ => 0)))] := hD
  refine lv_aload_n hx hb dX12_image_31 rfl (lv_at hl 0 rfl) ?_
  refine va_get (D := (dC, dI)) (ci := 12) (v := .ref s41) (C := RX12) (T := TX12) (N := 43) hx hb hq inX12 hown hK hP 0 rfl rfl 41 (by decide) (hq _ qw_1201) (fun _ h9 => h9) rfl dX12_image_32 ?_
  refine lv_iload_n hx hb dX12_image_35 rfl (lv_at hl 1 rfl) ?_
  refine lv_aload_n hx hb dX12_image_36 rfl (lv_at hl 0 rfl) ?_
  refine va_get (D := (dC, dI)) (ci := 12) (v := .int 0) (C := RX12) (T := TX12) (N := 43) hx hb hq inX12 hown hK hP 0 rfl rfl 22 (by decide) (hq _ qw_1182) (fun _ h9 => h9) rfl dX12_image_37 ?_
  refine va_iast hx hb hK hP hD hS 3 2 rfl rfl (inr_ok rfl) dX12_image_40 (fun H locs hP hD hS => ?_)
  generalize upd g41 (Int32.toNatClampNeg 2) 0 = f_5 at hP hD
  have hP : va_P (dC, dI) classes [(h0, .inr (12, [.ref s0, .int 0, .int 0, .ref s3, .ref s4, .ref s5, .ref s6, .ref s7, .int 0, .int 0, .int 0, .int 0, .int 0, .int 0, .int 0, .ref s15, .int 0, .ref s17, .int 0, .ref s19, .ref s20, .int (-1), .int 0, .int 0, .int 0, .int 0, .int 0, .ref s27, .int 0, .ref s29, .ref s30, .ref s31, .int 0, .int 0, .int 0, .ref s35, .ref s36, .ref s37, .long 0, .ref s39, .ref s40, .ref s41, .ref s42])), (s42, .inl (k42, 4, .inl f_3)), (s40, .inl (k40, 4, .inl f_4)), (s41, .inl (k41, 4, .inl f_5)), (s39, .inl (k39, 400, .inl g39)), (s20, .inl (k20, 100, .inl (fun _ => 0)))] H := hP
  have hD : va_D A [(h0, .inr (12, [.ref s0, .int 0, .int 0, .ref s3, .ref s4, .ref s5, .ref s6, .ref s7, .int 0, .int 0, .int 0, .int 0, .int 0, .int 0, .int 0, .ref s15, .int 0, .ref s17, .int 0, .ref s19, .ref s20, .int (-1), .int 0, .int 0, .int 0, .int 0, .int 0, .ref s27, .int 0, .ref s29, .ref s30, .ref s31, .int 0, .int 0, .int 0, .ref s35, .ref s36, .ref s37, .long 0, .ref s39, .ref s40, .ref s41, .ref s42])), (s42, .inl (k42, 4, .inl f_3)), (s40, .inl (k40, 4, .inl f_4)), (s41, .inl (k41, 4, .inl f_5)), (s39, .inl (k39, 400, .inl g39)), (s20, .inl (k20, 100, .inl (fun _ => 0)))] := hD
  refine lv_iconst (v := 0) hx hb dX12_image_41 (by decide) ?_
  refine lv_istore_n (lv' := [(2, .int 0), (0, .ref h0), (1, .int 2)]) hx hb dX12_image_42 rfl hl (by decide) rfl (fun ls hl => ?_)
  refine lp_M_image_2 hx hb hown hq hK (fun f_6 H locs ls hP hD hS hl => ?_) 100 0 rfl 0 rfl _ _ _ _ hP hD hS hl
  refine lv_aload_n hx hb dX12_image_72 rfl (lv_at hl 1 rfl) ?_
  refine va_get (D := (dC, dI)) (ci := 12) (v := .ref s20) (C := RX12) (T := TX12) (N := 43) hx hb hq inX12 hown hK hP 0 rfl rfl 20 (by decide) (hq _ qw_1180) (fun _ h9 => h9) rfl dX12_image_73 ?_
  refine lv_bipush (v := 10) hx hb dX12_image_76 (by decide) ?_
  refine va_iald hx hb hK hP 5 4 rfl rfl (inr_ok rfl) dX12_image_78 ?_
  refine lv_topi (fun y_7 ey_7 => ?_)
  obtain rfl : y_7 = 0 := ey_7.trans (rfl)
  refine W.widen (k := 0) (n := 0) (Nat.le_of_ble_eq_true rfl) (Nat.le_of_ble_eq_true rfl) ?_
  exact W.iret (v := 0) hx hb hr (fun t ht hW => ⟨⟨0, (), rfl, rfl, trivial⟩, hS.F ht⟩) hS.2.2 dX12_image_79

set_option maxHeartbeats 4000000 in
set_option maxRecDepth 100000 in
/-- c_M_back_2 -/
theorem c_M_back_2 (l : Launch) (dC : Nat → ClassId) (dI : Nat → Nat → Nat) (sz : Nat) (h0 : Nat) (s0 : Nat) (s3 : Nat) (s4 : Nat) (s5 : Nat) (s6 : Nat) (s7 : Nat) (s15 : Nat) (s17 : Nat) (s19 : Nat) (s20 : Nat) (s27 : Nat) (s29 : Nat) (s30 : Nat) (s31 : Nat) (s35 : Nat) (s36 : Nat) (s37 : Nat) (s39 : Nat) (s40 : Nat) (s41 : Nat) (s42 : Nat) (k42 : ClassId) : Met l yX12_back (.code yX12_back cX12_back 3 (some .int) :: wsA) ({ frames := 1, cells := 0, slots := 0, locals := 25 }) (va_Pc [.ref h0, .int 2] (fun U => U.heap.size = sz ∧ va_P (dC, dI) classes [(h0, .inr (12, [.ref s0, .int 0, .int 0, .ref s3, .ref s4, .ref s5, .ref s6, .ref s7, .int 0, .int 0, .int 0, .int 0, .int 0, .int 0, .int 0, .ref s15, .int 0, .ref s17, .int 0, .ref s19, .ref s20, .int (-1), .int 0, .int 0, .int 0, .int 0, .int 0, .ref s27, .int 0, .ref s29, .ref s30, .ref s31, .int 0, .int 0, .int 0, .ref s35, .ref s36, .ref s37, .long 0, .ref s39, .ref s40, .ref s41, .ref s42])), (s42, .inl (k42, 4, .inl (fun _ => 0)))] U.heap ∧ va_K (dC, dI) classes [(k42, .boolean)] U ∧ va_D (fun _ => True) [(h0, .inr (12, [.ref s0, .int 0, .int 0, .ref s3, .ref s4, .ref s5, .ref s6, .ref s7, .int 0, .int 0, .int 0, .int 0, .int 0, .int 0, .int 0, .ref s15, .int 0, .ref s17, .int 0, .ref s19, .ref s20, .int (-1), .int 0, .int 0, .int 0, .int 0, .int 0, .ref s27, .int 0, .ref s29, .ref s30, .ref s31, .int 0, .int 0, .int 0, .ref s35, .ref s36, .ref s37, .long 0, .ref s39, .ref s40, .ref s41, .ref s42])), (s42, .inl (k42, 4, .inl (fun _ => 0)))] ∧ xE U)) (va_Qi (fun (r : Int32) (_ : Unit) => r = (-1)) (fun _ _ => True) (va_A [(h0, .inr (12, [.ref s0, .int 0, .int 0, .ref s3, .ref s4, .ref s5, .ref s6, .ref s7, .int 0, .int 0, .int 0, .int 0, .int 0, .int 0, .int 0, .ref s15, .int 0, .ref s17, .int 0, .ref s19, .ref s20, .int (-1), .int 0, .int 0, .int 0, .int 0, .int 0, .ref s27, .int 0, .ref s29, .ref s30, .ref s31, .int 0, .int 0, .int 0, .ref s35, .ref s36, .ref s37, .long 0, .ref s39, .ref s40, .ref s41, .ref s42])), (s42, .inl (k42, 4, .inl (fun _ => 0)))] sz)) 0 0 (va_A [(h0, .inr (12, [.ref s0, .int 0, .int 0, .ref s3, .ref s4, .ref s5, .ref s6, .ref s7, .int 0, .int 0, .int 0, .int 0, .int 0, .int 0, .int 0, .ref s15, .int 0, .ref s17, .int 0, .ref s19, .ref s20, .int (-1), .int 0, .int 0, .int 0, .int 0, .int 0, .ref s27, .int 0, .ref s29, .ref s30, .ref s31, .int 0, .int 0, .int 0, .ref s35, .ref s36, .ref s37, .long 0, .ref s39, .ref s40, .ref s41, .ref s42])), (s42, .inl (k42, 4, .inl (fun _ => 0)))] sz) := by
  refine Met.ofW (cc := cX12_back) (maxL := 3) (ret := (some .int)) (by decide) rfl ?_
  intro p e s m args below meth c s₁ B hml hv
  obtain ⟨rfl, hsz, hP, hK, hD0, hE⟩ := hv
  have hx := B.exec
  have hb := B.bytes
  have hr := B.returns
  have hts := atoms_spec (ws := .code yX12_back cX12_back 3 (some .int) :: wsA) B.pre
  have hq : ∀ w ∈ wsA, w.before _ s = true := fun w h => hts w (List.mem_cons_of_mem _ h)
  have hown : s.vm.findClass RX12 = some m.cls := findClass_of_methodNamed B.named
  have hlocks := B.notSynchronized
  subst hsz
  have hD := hD0.self (sz := s.heap.size)
  generalize hAe : va_A [(h0, .inr (12, [.ref s0, .int 0, .int 0, .ref s3, .ref s4, .ref s5, .ref s6, .ref s7, .int 0, .int 0, .int 0, .int 0, .int 0, .int 0, .int 0, .ref s15, .int 0, .ref s17, .int 0, .ref s19, .ref s20, .int (-1), .int 0, .int 0, .int 0, .int 0, .int 0, .ref s27, .int 0, .ref s29, .ref s30, .ref s31, .int 0, .int 0, .int 0, .ref s35, .ref s36, .ref s37, .long 0, .ref s39, .ref s40, .ref s41, .ref s42])), (s42, .inl (k42, 4, .inl (fun _ => 0)))] s.heap.size = A at hD ⊢
  have hA : ∀ q : Nat, s.heap.size ≤ q → A q := fun q h => by rw [← hAe]; exact Or.inr h
  have hS : va_S A s.heap s.heap [] := va_S.rf
  have hl := lv_entry ([.ref h0, .int 2]) (n := 3) (Nat.le_of_ble_eq_true rfl)
  rw [lg_entry_eq]
  generalize (lg_sl ([.ref h0, .int 2]) ++ List.replicate (3 - (lg_sl ([.ref h0, .int 2])).length) Slot.unset).toArray = ls at hl ⊢
  have hl : lv_has ls 3 [(0, .ref h0), (1, .int 2)] := hl
  refine lv_iload_n hx hb dX12_back_0 rfl (lv_at hl 1 rfl) ?_
  refine lv_i2l hx hb dX12_back_1 rfl ?_
  refine lv_topl (fun y_1 ey_1 => ?_)
  obtain rfl : y_1 = 2 := ey_1.trans (by decide)
  refine lv_lconst (v := 0) hx hb dX12_back_2 (by decide) ?_
  refine lv_ldc2 (v := 3) hx hb hown (hq _ qw_1794) dX12_back_3 ?_
  have hPc := hP.sub (ws' := []) [] rfl
  have hDc := hD.sub (ws' := []) [] (by decide) rfl
  have hKc := hK.sub (tys' := []) [] rfl
  have hFc := va_free (wc := []) hD hS hA [] rfl
  refine va_calli (va_runS (As := [.long 2, .long 0, .long 3]) (rest := []) ⟨hx, hb, hml, hown, hq⟩ (c_M_in_2 l dC dI _  ) (cwS 3 hq (gS qw_1364 qw_1365 qw_131 qw_1366) rfl rfl rfl (by decide +kernel) ⟨Nat.le_of_ble_eq_true rfl, Nat.le_of_ble_eq_true rfl⟩) ⟨fun a U g mk q => by obtain ⟨q0, q1, qP, qK, qD, qE⟩ := q; exact ⟨q0, q1, qP, va_K.moved (u := U) (U := U.calling g mk a) (Vm.Alike.refl U.vm) qK, qD, xE.same rfl qE⟩, fun U hU hW => ⟨rfl, by rw [hU], by rw [hU]; exact hPc, va_K.moved hW.alike hKc, hDc.weaken (fun _ _ _ _ => trivial), xE.warm hW hE⟩⟩ rfl rfl hl.1 rfl (lv_room (Nat.le_of_ble_eq_true rfl)) dX12_back_6 ⟨Nat.le_of_ble_eq_true rfl, Nat.le_of_ble_eq_true rfl⟩) hS (fun q _ h => hFc q h) hFc (fun r_2 u t H1 locs ht hvm hw hB hz1 hk1 hS => ?_)
  obtain ⟨hP1, hK1, hD1⟩ := hB
  rw [ht] at hP1
  have hK1 := va_K.moved hvm.symm hK1
  obtain ⟨hP, hD⟩ := va_join (wr := [(h0, .inr (12, [.ref s0, .int 0, .int 0, .ref s3, .ref s4, .ref s5, .ref s6, .ref s7, .int 0, .int 0, .int 0, .int 0, .int 0, .int 0, .int 0, .ref s15, .int 0, .ref s17, .int 0, .ref s19, .ref s20, .int (-1), .int 0, .int 0, .int 0, .int 0, .int 0, .ref s27, .int 0, .ref s29, .ref s30, .ref s31, .int 0, .int 0, .int 0, .ref s35, .ref s36, .ref s37, .long 0, .ref s39, .ref s40, .ref s41, .ref s42])), (s42, .inl (k42, 4, .inl (fun _ => 0)))]) (w1 := []) hP hD [] [0, 1] rfl rfl (by decide) (by decide) hk1 hFc hP1 hD1
  generalize H1 = H at hP hS ⊢
  have hP : va_P (dC, dI) classes [(h0, .inr (12, [.ref s0, .int 0, .int 0, .ref s3, .ref s4, .ref s5, .ref s6, .ref s7, .int 0, .int 0, .int 0, .int 0, .int 0, .int 0, .int 0, .ref s15, .int 0, .ref s17, .int 0, .ref s19, .ref s20, .int (-1), .int 0, .int 0, .int 0, .int 0, .int 0, .ref s27, .int 0, .ref s29, .ref s30, .ref s31, .int 0, .int 0, .int 0, .ref s35, .ref s36, .ref s37, .long 0, .ref s39, .ref s40, .ref s41, .ref s42])), (s42, .inl (k42, 4, .inl (fun _ => 0)))] H := hP
  have hD : va_D A [(h0, .inr (12, [.ref s0, .int 0, .int 0, .ref s3, .ref s4, .ref s5, .ref s6, .ref s7, .int 0, .int 0, .int 0, .int 0, .int 0, .int 0, .int 0, .ref s15, .int 0, .ref s17, .int 0, .ref s19, .ref s20, .int (-1), .int 0, .int 0, .int 0, .int 0, .int 0, .ref s27, .int 0, .ref s29, .ref s30, .ref s31, .int 0, .int 0, .int 0, .ref s35, .ref s36, .ref s37, .long 0, .ref s39, .ref s40, .ref s41, .ref s42])), (s42, .inl (k42, 4, .inl (fun _ => 0)))] := hD
  obtain rfl : r_2 = 1 := hw
  refine lv_if_eq (tgt := 21) hx hb dX12_back_9 (by decide) (fun c9 => absurd c9 (by decide)) (fun _ => ?_)
  refine lv_aload_n hx hb dX12_back_12 rfl (lv_at hl 0 rfl) ?_
  refine va_get (D := (dC, dI)) (ci := 12) (v := .ref s42) (C := RX12) (T := TX12) (N := 43) hx hb hq inX12 hown hK hP 0 rfl rfl 42 (by decide) (hq _ qw_1202) (fun _ h9 => h9) rfl dX12_back_13 ?_
  refine lv_iload_n hx hb dX12_back_16 rfl (lv_at hl 1 rfl) ?_
  refine va_zald hx hb hK hP 1 0 rfl rfl (inr_ok rfl) dX12_back_17 ?_
  refine lv_topi (fun y_3 ey_3 => ?_)
  obtain rfl : y_3 = 0 := ey_3.trans (rfl)
  refine lv_if_ne (tgt := 23) hx hb dX12_back_18 (by decide) (fun c9 => absurd c9 (by decide)) (fun _ => ?_)
  refine lv_iconst (v := (-1)) hx hb dX12_back_21 (by decide) ?_
  refine W.widen (k := 0) (n := 0) (Nat.le_of_ble_eq_true rfl) (Nat.le_of_ble_eq_true rfl) ?_
  exact W.iret (v := (-1)) hx hb hr (fun t ht hW => ⟨⟨(-1), (), rfl, rfl, trivial⟩, hS.F ht⟩) hS.2.2 dX12_back_22

set_option maxHeartbeats 4000000 in
set_option maxRecDepth 100000 in
/-- c_M_image_3 -/
theorem c_M_image_3 (l : Launch) (dC : Nat → ClassId) (dI : Nat → Nat → Nat) (sz : Nat) (h0 : Nat) (s0 : Nat) (s3 : Nat) (s4 : Nat) (s5 : Nat) (s6 : Nat) (s7 : Nat) (s15 : Nat) (s17 : Nat) (s19 : Nat) (s20 : Nat) (s27 : Nat) (s29 : Nat) (s30 : Nat) (s31 : Nat) (s35 : Nat) (s36 : Nat) (s37 : Nat) (s39 : Nat) (s40 : Nat) (s41 : Nat) (s42 : Nat) (k42 : ClassId) (k40 : ClassId) (g40 : Nat → Int32) (k41 : ClassId) (g41 : Nat → Int32) (k39 : ClassId) (g39 : Nat → Int32) (k20 : ClassId) : Met l yX12_image (.code yX12_image cX12_image 3 (some .int) :: wsA) ({ frames := 1, cells := 0, slots := 0, locals := 25 }) (va_Pc [.ref h0, .int 3] (fun U => U.heap.size = sz ∧ va_P (dC, dI) classes [(h0, .inr (12, [.ref s0, .int 0, .int 0, .ref s3, .ref s4, .ref s5, .ref s6, .ref s7, .int 0, .int 0, .int 0, .int 0, .int 0, .int 0, .int 0, .ref s15, .int 0, .ref s17, .int 0, .ref s19, .ref s20, .int (-1), .int 0, .int 0, .int 0, .int 0, .int 0, .ref s27, .int 0, .ref s29, .ref s30, .ref s31, .int 0, .int 0, .int 0, .ref s35, .ref s36, .ref s37, .long 0, .ref s39, .ref s40, .ref s41, .ref s42])), (s42, .inl (k42, 4, .inl (fun _ => 0))), (s40, .inl (k40, 4, .inl g40)), (s41, .inl (k41, 4, .inl g41)), (s39, .inl (k39, 400, .inl g39)), (s20, .inl (k20, 100, .inl (fun _ => 0)))] U.heap ∧ va_K (dC, dI) classes [(k42, .boolean), (k40, .int), (k41, .int), (k39, .int), (k20, .int)] U ∧ va_D (fun _ => True) [(h0, .inr (12, [.ref s0, .int 0, .int 0, .ref s3, .ref s4, .ref s5, .ref s6, .ref s7, .int 0, .int 0, .int 0, .int 0, .int 0, .int 0, .int 0, .ref s15, .int 0, .ref s17, .int 0, .ref s19, .ref s20, .int (-1), .int 0, .int 0, .int 0, .int 0, .int 0, .ref s27, .int 0, .ref s29, .ref s30, .ref s31, .int 0, .int 0, .int 0, .ref s35, .ref s36, .ref s37, .long 0, .ref s39, .ref s40, .ref s41, .ref s42])), (s42, .inl (k42, 4, .inl (fun _ => 0))), (s40, .inl (k40, 4, .inl g40)), (s41, .inl (k41, 4, .inl g41)), (s39, .inl (k39, 400, .inl g39)), (s20, .inl (k20, 100, .inl (fun _ => 0)))] ∧ xE U)) (va_Qi (fun (r : Int32) (_ : Unit) => r = 0) (fun _ _ => True) (va_A [(h0, .inr (12, [.ref s0, .int 0, .int 0, .ref s3, .ref s4, .ref s5, .ref s6, .ref s7, .int 0, .int 0, .int 0, .int 0, .int 0, .int 0, .int 0, .ref s15, .int 0, .ref s17, .int 0, .ref s19, .ref s20, .int (-1), .int 0, .int 0, .int 0, .int 0, .int 0, .ref s27, .int 0, .ref s29, .ref s30, .ref s31, .int 0, .int 0, .int 0, .ref s35, .ref s36, .ref s37, .long 0, .ref s39, .ref s40, .ref s41, .ref s42])), (s42, .inl (k42, 4, .inl (fun _ => 0))), (s40, .inl (k40, 4, .inl g40)), (s41, .inl (k41, 4, .inl g41)), (s39, .inl (k39, 400, .inl g39)), (s20, .inl (k20, 100, .inl (fun _ => 0)))] sz)) 0 0 (va_A [(h0, .inr (12, [.ref s0, .int 0, .int 0, .ref s3, .ref s4, .ref s5, .ref s6, .ref s7, .int 0, .int 0, .int 0, .int 0, .int 0, .int 0, .int 0, .ref s15, .int 0, .ref s17, .int 0, .ref s19, .ref s20, .int (-1), .int 0, .int 0, .int 0, .int 0, .int 0, .ref s27, .int 0, .ref s29, .ref s30, .ref s31, .int 0, .int 0, .int 0, .ref s35, .ref s36, .ref s37, .long 0, .ref s39, .ref s40, .ref s41, .ref s42])), (s42, .inl (k42, 4, .inl (fun _ => 0))), (s40, .inl (k40, 4, .inl g40)), (s41, .inl (k41, 4, .inl g41)), (s39, .inl (k39, 400, .inl g39)), (s20, .inl (k20, 100, .inl (fun _ => 0)))] sz) := by
  refine Met.ofW (cc := cX12_image) (maxL := 3) (ret := (some .int)) (by decide) rfl ?_
  intro p e s m args below meth c s₁ B hml hv
  obtain ⟨rfl, hsz, hP, hK, hD0, hE⟩ := hv
  have hx := B.exec
  have hb := B.bytes
  have hr := B.returns
  have hts := atoms_spec (ws := .code yX12_image cX12_image 3 (some .int) :: wsA) B.pre
  have hq : ∀ w ∈ wsA, w.before _ s = true := fun w h => hts w (List.mem_cons_of_mem _ h)
  have hown : s.vm.findClass RX12 = some m.cls := findClass_of_methodNamed B.named
  have hlocks := B.notSynchronized
  subst hsz
  have hD := hD0.self (sz := s.heap.size)
  generalize hAe : va_A [(h0, .inr (12, [.ref s0, .int 0, .int 0, .ref s3, .ref s4, .ref s5, .ref s6, .ref s7, .int 0, .int 0, .int 0, .int 0, .int 0, .int 0, .int 0, .ref s15, .int 0, .ref s17, .int 0, .ref s19, .ref s20, .int (-1), .int 0, .int 0, .int 0, .int 0, .int 0, .ref s27, .int 0, .ref s29, .ref s30, .ref s31, .int 0, .int 0, .int 0, .ref s35, .ref s36, .ref s37, .long 0, .ref s39, .ref s40, .ref s41, .ref s42])), (s42, .inl (k42, 4, .inl (fun _ => 0))), (s40, .inl (k40, 4, .inl g40)), (s41, .inl (k41, 4, .inl g41)), (s39, .inl (k39, 400, .inl g39)), (s20, .inl (k20, 100, .inl (fun _ => 0)))] s.heap.size = A at hD ⊢
  have hA : ∀ q : Nat, s.heap.size ≤ q → A q := fun q h => by rw [← hAe]; exact Or.inr h
  have hS : va_S A s.heap s.heap [] := va_S.rf
  have hl := lv_entry ([.ref h0, .int 3]) (n := 3) (Nat.le_of_ble_eq_true rfl)
  rw [lg_entry_eq]
  generalize (lg_sl ([.ref h0, .int 3]) ++ List.replicate (3 - (lg_sl ([.ref h0, .int 3])).length) Slot.unset).toArray = ls at hl ⊢
  have hl : lv_has ls 3 [(0, .ref h0), (1, .int 3)] := hl
  refine lv_iload_n hx hb dX12_image_0 rfl (lv_at hl 1 rfl) ?_
  refine lv_i2l hx hb dX12_image_1 rfl ?_
  refine lv_topl (fun y_1 ey_1 => ?_)
  obtain rfl : y_1 = 3 := ey_1.trans (by decide)
  refine lv_lconst (v := 0) hx hb dX12_image_2 (by decide) ?_
  refine lv_ldc2 (v := 3) hx hb hown (hq _ qw_1794) dX12_image_3 ?_
  have hPc := hP.sub (ws' := []) [] rfl
  have hDc := hD.sub (ws' := []) [] (by decide) rfl
  have hKc := hK.sub (tys' := []) [] rfl
  have hFc := va_free (wc := []) hD hS hA [] rfl
  refine va_calli (va_runS (As := [.long 3, .long 0, .long 3]) (rest := []) ⟨hx, hb, hml, hown, hq⟩ (c_M_in_3 l dC dI _  ) (cwS 3 hq (gS qw_1364 qw_1365 qw_131 qw_1366) rfl rfl rfl (by decide +kernel) ⟨Nat.le_of_ble_eq_true rfl, Nat.le_of_ble_eq_true rfl⟩) ⟨fun a U g mk q => by obtain ⟨q0, q1, qP, qK, qD, qE⟩ := q; exact ⟨q0, q1, qP, va_K.moved (u := U) (U := U.calling g mk a) (Vm.Alike.refl U.vm) qK, qD, xE.same rfl qE⟩, fun U hU hW => ⟨rfl, by rw [hU], by rw [hU]; exact hPc, va_K.moved hW.alike hKc, hDc.weaken (fun _ _ _ _ => trivial), xE.warm hW hE⟩⟩ rfl rfl hl.1 rfl (lv_room (Nat.le_of_ble_eq_true rfl)) dX12_image_6 ⟨Nat.le_of_ble_eq_true rfl, Nat.le_of_ble_eq_true rfl⟩) hS (fun q _ h => hFc q h) hFc (fun r_2 u t H1 locs ht hvm hw hB hz1 hk1 hS => ?_)
  obtain ⟨hP1, hK1, hD1⟩ := hB
  rw [ht] at hP1
  have hK1 := va_K.moved hvm.symm hK1
  obtain ⟨hP, hD⟩ := va_join (wr := [(h0, .inr (12, [.ref s0, .int 0, .int 0, .ref s3, .ref s4, .ref s5, .ref s6, .ref s7, .int 0, .int 0, .int 0, .int 0, .int 0, .int 0, .int 0, .ref s15, .int 0, .ref s17, .int 0, .ref s19, .ref s20, .int (-1), .int 0, .int 0, .int 0, .int 0, .int 0, .ref s27, .int 0, .ref s29, .ref s30, .ref s31, .int 0, .int 0, .int 0, .ref s35, .ref s36, .ref s37, .long 0, .ref s39, .ref s40, .ref s41, .ref s42])), (s42, .inl (k42, 4, .inl (fun _ => 0))), (s40, .inl (k40, 4, .inl g40)), (s41, .inl (k41, 4, .inl g41)), (s39, .inl (k39, 400, .inl g39)), (s20, .inl (k20, 100, .inl (fun _ => 0)))]) (w1 := []) hP hD [] [0, 1, 2, 3, 4, 5] rfl rfl (by decide) (by decide) hk1 hFc hP1 hD1
  generalize H1 = H at hP hS ⊢
  have hP : va_P (dC, dI) classes [(h0, .inr (12, [.ref s0, .int 0, .int 0, .ref s3, .ref s4, .ref s5, .ref s6, .ref s7, .int 0, .int 0, .int 0, .int 0, .int 0, .int 0, .int 0, .ref s15, .int 0, .ref s17, .int 0, .ref s19, .ref s20, .int (-1), .int 0, .int 0, .int 0, .int 0, .int 0, .ref s27, .int 0, .ref s29, .ref s30, .ref s31, .int 0, .int 0, .int 0, .ref s35, .ref s36, .ref s37, .long 0, .ref s39, .ref s40, .ref s41, .ref s42])), (s42, .inl (k42, 4, .inl (fun _ => 0))), (s40, .inl (k40, 4, .inl g40)), (s41, .inl (k41, 4, .inl g41)), (s39, .inl (k39, 400, .inl g39)), (s20, .inl (k20, 100, .inl (fun _ => 0)))] H := hP
  have hD : va_D A [(h0, .inr (12, [.ref s0, .int 0, .int 0, .ref s3, .ref s4, .ref s5, .ref s6, .ref s7, .int 0, .int 0, .int 0, .int 0, .int 0, .int 0, .int 0, .ref s15, .int 0, .ref s17, .int 0, .ref s19, .ref s20, .int (-1), .int 0, .int 0, .int 0, .int 0, .int 0, .ref s27, .int 0, .ref s29, .ref s30, .ref s31, .int 0, .int 0, .int 0, .ref s35, .ref s36, .ref s37, .long 0, .ref s39, .ref s40, .ref s41, .ref s42])), (s42, .inl (k42, 4, .inl (fun _ => 0))), (s40, .inl (k40, 4, .inl g40)), (s41, .inl (k41, 4, .inl g41)), (s39, .inl (k39, 400, .inl g39)), (s20, .inl (k20, 100, .inl (fun _ => 0)))] := hD
  obtain rfl : r_2 = 1 := hw
  refine lv_if_ne (tgt := 14) hx hb dX12_image_9 (by decide) (fun _ => ?_) (fun c9 => absurd c9 (by decide))
  refine lv_aload_n hx hb dX12_image_14 rfl (lv_at hl 0 rfl) ?_
  refine va_get (D := (dC, dI)) (ci := 12) (v := .ref s42) (C := RX12) (T := TX12) (N := 43) hx hb hq inX12 hown hK hP 0 rfl rfl 42 (by decide) (hq _ qw_1202) (fun _ h9 => h9) rfl dX12_image_15 ?_
  refine lv_iload_n hx hb dX12_image_18 rfl (lv_at hl 1 rfl) ?_
  refine lv_iconst (v := 1) hx hb dX12_image_19 (by decide) ?_
  refine va_zast hx hb hK hP hD hS 1 0 rfl rfl (inr_ok rfl) dX12_image_20 (fun H locs hP hD hS => ?_)
  generalize upd (fun _ => 0) (Int32.toNatClampNeg 3) (vp_nar .boolean 1) = f_3 at hP hD
  have hP : va_P (dC, dI) classes [(h0, .inr (12, [.ref s0, .int 0, .int 0, .ref s3, .ref s4, .ref s5, .ref s6, .ref s7, .int 0, .int 0, .int 0, .int 0, .int 0, .int 0, .int 0, .ref s15, .int 0, .ref s17, .int 0, .ref s19, .ref s20, .int (-1), .int 0, .int 0, .int 0, .int 0, .int 0, .ref s27, .int 0, .ref s29, .ref s30, .ref s31, .int 0, .int 0, .int 0, .ref s35, .ref s36, .ref s37, .long 0, .ref s39, .ref s40, .ref s41, .ref s42])), (s42, .inl (k42, 4, .inl f_3)), (s40, .inl (k40, 4, .inl g40)), (s41, .inl (k41, 4, .inl g41)), (s39, .inl (k39, 400, .inl g39)), (s20, .inl (k20, 100, .inl (fun _ => 0)))] H := hP
  have hD : va_D A [(h0, .inr (12, [.ref s0, .int 0, .int 0, .ref s3, .ref s4, .ref s5, .ref s6, .ref s7, .int 0, .int 0, .int 0, .int 0, .int 0, .int 0, .int 0, .ref s15, .int 0, .ref s17, .int 0, .ref s19, .ref s20, .int (-1), .int 0, .int 0, .int 0, .int 0, .int 0, .ref s27, .int 0, .ref s29, .ref s30, .ref s31, .int 0, .int 0, .int 0, .ref s35, .ref s36, .ref s37, .long 0, .ref s39, .ref s40, .ref s41, .ref s42])), (s42, .inl (k42, 4, .inl f_3)), (s40, .inl (k40, 4, .inl g40)), (s41, .inl (k41, 4, .inl g41)), (s39, .inl (k39, 400, .inl g39)), (s20, .inl (k20, 100, .inl (fun _ => 0)))] := hD
  refine lv_aload_n hx hb dX12_image_21 rfl (lv_at hl 0 rfl) ?_
  refine va_get (D := (dC, dI)) (ci := 12) (v := .ref s40) (C := RX12) (T := TX12) (N := 43) hx hb hq inX12 hown hK hP 0 rfl rfl 40 (by decide) (hq _ qw_1200) (fun _ h9 => h9) rfl dX12_image_22 ?_
  refine lv_iload_n hx hb dX12_image_25 rfl (lv_at hl 1 rfl) ?_
  refine lv_aload_n hx hb dX12_image_26 rfl (lv_at hl 0 rfl) ?_
  refine va_get (D := (dC, dI)) (ci := 12) (v := .int (-1)) (C := RX12) (T := TX12) (N := 43) hx hb hq inX12 hown hK hP 0 rfl rfl 21 (by decide) (hq _ qw_1181) (fun _ h9 => h9) rfl dX12_image_27 ?_
  refine va_iast hx hb hK hP hD hS 2 1 rfl rfl (inr_ok rfl) dX12_image_30 (fun H locs hP hD hS => ?_)
  generalize upd g40 (Int32.toNatClampNeg 3) (-1) = f_4 at hP hD
  have hP : va_P (dC, dI) classes [(h0, .inr (12, [.ref s0, .int 0, .int 0, .ref s3, .ref s4, .ref s5, .ref s6, .ref s7, .int 0, .int 0, .int 0, .int 0, .int 0, .int 0, .int 0, .ref s15, .int 0, .ref s17, .int 0, .ref s19, .ref s20, .int (-1), .int 0, .int 0, .int 0, .int 0, .int 0, .ref s27, .int 0, .ref s29, .ref s30, .ref s31, .int 0, .int 0, .int 0, .ref s35, .ref s36, .ref s37, .long 0, .ref s39, .ref s40, .ref s41, .ref s42])), (s42, .inl (k42, 4, .inl f_3)), (s40, .inl (k40, 4, .inl f_4)), (s41, .inl (k41, 4, .inl g41)), (s39, .inl (k39, 400, .inl g39)), (s20, .inl (k20, 100, .inl (fun _ => 0)))] H := hP
  have hD : va_D A [(h0, .inr (12, [.ref s0, .int 0, .int 0, .ref s3, .ref s4, .ref s5, .ref s6, .ref s7, .int 0, .int 0, .int 0, .int 0, .int 0, .int 0, .int 0, .ref s15, .int 0, .ref s17, .int 0, .ref s19, .ref s20, .int (-1), .int 0, .int 0, .int 0, .int 0, .int 0, .ref s27, .int 0, .ref s29, .ref s30, .ref s31, .int 0, .int 0, .int 0, .ref s35, .ref s36, .ref s37, .long 0, .ref s39, .ref s40, .ref s41, .ref s42])), (s42, .inl (k42, 4, .inl f_3)), (s40, .inl (k40, 4, .inl f_4)), (s41, .inl (k41, 4, .inl g41)), (s39, .inl (k39, 400, .inl g39)), (s20, .inl (k20, 100, .inl (fun _ => 0)))] := hD
  refine lv_aload_n hx hb dX12_image_31 rfl (lv_at hl 0 rfl) ?_
  refine va_get (D := (dC, dI)) (ci := 12) (v := .ref s41) (C := RX12) (T := TX12) (N := 43) hx hb hq inX12 hown hK hP 0 rfl rfl 41 (by decide) (hq _ qw_1201) (fun _ h9 => h9) rfl dX12_image_32 ?_
  refine lv_iload_n hx hb dX12_image_35 rfl (lv_at hl 1 rfl) ?_
  refine lv_aload_n hx hb dX12_image_36 rfl (lv_at hl 0 rfl) ?_
  refine va_get (D := (dC, dI)) (ci := 12) (v := .int 0) (C := RX12) (T := TX12) (N := 43) hx hb hq inX12 hown hK hP 0 rfl rfl 22 (by decide) (hq _ qw_1182) (fun _ h9 => h9) rfl dX12_image_37 ?_
  refine va_iast hx hb hK hP hD hS 3 2 rfl rfl (inr_ok rfl) dX12_image_40 (fun H locs hP hD hS => ?_)
  generalize upd g41 (Int32.toNatClampNeg 3) 0 = f_5 at hP hD
  have hP : va_P (dC, dI) classes [(h0, .inr (12, [.ref s0, .int 0, .int 0, .ref s3, .ref s4, .ref s5, .ref s6, .ref s7, .int 0, .int 0, .int 0, .int 0, .int 0, .int 0, .int 0, .ref s15, .int 0, .ref s17, .int 0, .ref s19, .ref s20, .int (-1), .int 0, .int 0, .int 0, .int 0, .int 0, .ref s27, .int 0, .ref s29, .ref s30, .ref s31, .int 0, .int 0, .int 0, .ref s35, .ref s36, .ref s37, .long 0, .ref s39, .ref s40, .ref s41, .ref s42])), (s42, .inl (k42, 4, .inl f_3)), (s40, .inl (k40, 4, .inl f_4)), (s41, .inl (k41, 4, .inl f_5)), (s39, .inl (k39, 400, .inl g39)), (s20, .inl (k20, 100, .inl (fun _ => 0)))] H := hP
  have hD : va_D A [(h0, .inr (12, [.ref s0, .int 0, .int 0, .ref s3, .ref s4, .ref s5, .ref s6, .ref s7, .int 0, .int 0, .int 0, .int 0, .int 0, .int 0, .int 0, .ref s15, .int 0, .ref s17, .int 0, .ref s19, .ref s20, .int (-1), .int 0, .int 0, .int 0, .int 0, .int 0, .ref s27, .int 0, .ref s29, .ref s30, .ref s31, .int 0, .int 0, .int 0, .ref s35, .ref s36, .ref s37, .long 0, .ref s39, .ref s40, .ref s41, .ref s42])), (s42, .inl (k42, 4, .inl f_3)), (s40, .inl (k40, 4, .inl f_4)), (s41, .inl (k41, 4, .inl f_5)), (s39, .inl (k39, 400, .inl g39)), (s20, .inl (k20, 100, .inl (fun _ => 0)))] := hD
  refine lv_iconst (v := 0) hx hb dX12_image_41 (by decide) ?_
  refine lv_istore_n (lv' := [(2, .int 0), (0, .ref h0), (1, .int 3)]) hx hb dX12_image_42 rfl hl (by decide) rfl (fun ls hl => ?_)
  refine lp_M_image_3 hx hb hown hq hK (fun f_6 H locs ls hP hD hS hl => ?_) 100 0 rfl 0 rfl _ _ _ _ hP hD hS hl
  refine lv_aload_n hx hb dX12_image_72 rfl (lv_at hl 1 rfl) ?_
  refine va_get (D := (dC, dI)) (ci := 12) (v := .ref s20) (C := RX12) (T := TX12) (N := 43) hx hb hq inX12 hown hK hP 0 rfl rfl 20 (by decide) (hq _ qw_1180) (fun _ h9 => h9) rfl dX12_image_73 ?_
  refine lv_bipush (v := 10) hx hb dX12_image_76 (by decide) ?_
  refine va_iald hx hb hK hP 5 4 rfl rfl (inr_ok rfl) dX12_image_78 ?_
  refine lv_topi (fun y_7 ey_7 => ?_)
  obtain rfl : y_7 = 0 := ey_7.trans (rfl)
  refine W.widen (k := 0) (n := 0) (Nat.le_of_ble_eq_true rfl) (Nat.le_of_ble_eq_true rfl) ?_
  exact W.iret (v := 0) hx hb hr (fun t ht hW => ⟨⟨0, (), rfl, rfl, trivial⟩, hS.F ht⟩) hS.2.2 dX12_image_79

set_option maxHeartbeats 4000000 in
set_option maxRecDepth 100000 in
/-- c_M_back_3 -/
theorem c_M_back_3 (l : Launch) (dC : Nat → ClassId) (dI : Nat → Nat → Nat) (sz : Nat) (h0 : Nat) (s0 : Nat) (s3 : Nat) (s4 : Nat) (s5 : Nat) (s6 : Nat) (s7 : Nat) (s15 : Nat) (s17 : Nat) (s19 : Nat) (s20 : Nat) (s27 : Nat) (s29 : Nat) (s30 : Nat) (s31 : Nat) (s35 : Nat) (s36 : Nat) (s37 : Nat) (s39 : Nat) (s40 : Nat) (s41 : Nat) (s42 : Nat) (k42 : ClassId) : Met l yX12_back (.code yX12_back cX12_back 3 (some .int) :: wsA) ({ frames := 1, cells := 0, slots := 0, locals := 25 }) (va_Pc [.ref h0, .int 3] (fun U => U.heap.size = sz ∧ va_P (dC, dI) classes [(h0, .inr (12, [.ref s0, .int 0, .int 0, .ref s3, .ref s4, .ref s5, .ref s6, .ref s7, .int 0, .int 0, .int 0, .int 0, .int 0, .int 0, .int 0, .ref s15, .int 0, .ref s17, .int 0, .ref s19, .ref s20, .int (-1), .int 0, .int 0, .int 0, .int 0, .int 0, .ref s27, .int 0, .ref s29, .ref s30, .ref s31, .int 0, .int 0, .int 0, .ref s35, .ref s36, .ref s37, .long 0, .ref s39, .ref s40, .ref s41, .ref s42])), (s42, .inl (k42, 4, .inl (fun _ => 0)))] U.heap ∧ va_K (dC, dI) classes [(k42, .boolean)] U ∧ va_D (fun _ => True) [(h0, .inr (12, [.ref s0, .int 0, .int 0, .ref s3, .ref s4, .ref s5, .ref s6, .ref s7, .int 0, .int 0, .int 0, .int 0, .int 0, .int 0, .int 0, .ref s15, .int 0, .ref s17, .int 0, .ref s19, .ref s20, .int (-1), .int 0, .int 0, .int 0, .int 0, .int 0, .ref s27, .int 0, .ref s29, .ref s30, .ref s31, .int 0, .int 0, .int 0, .ref s35, .ref s36, .ref s37, .long 0, .ref s39, .ref s40, .ref s41, .ref s42])), (s42, .inl (k42, 4, .inl (fun _ => 0)))] ∧ xE U)) (va_Qi (fun (r : Int32) (_ : Unit) => r = (-1)) (fun _ _ => True) (va_A [(h0, .inr (12, [.ref s0, .int 0, .int 0, .ref s3, .ref s4, .ref s5, .ref s6, .ref s7, .int 0, .int 0, .int 0, .int 0, .int 0, .int 0, .int 0, .ref s15, .int 0, .ref s17, .int 0, .ref s19, .ref s20, .int (-1), .int 0, .int 0, .int 0, .int 0, .int 0, .ref s27, .int 0, .ref s29, .ref s30, .ref s31, .int 0, .int 0, .int 0, .ref s35, .ref s36, .ref s37, .long 0, .ref s39, .ref s40, .ref s41, .ref s42])), (s42, .inl (k42, 4, .inl (fun _ => 0)))] sz)) 0 0 (va_A [(h0, .inr (12, [.ref s0, .int 0, .int 0, .ref s3, .ref s4, .ref s5, .ref s6, .ref s7, .int 0, .int 0, .int 0, .int 0, .int 0, .int 0, .int 0, .ref s15, .int 0, .ref s17, .int 0, .ref s19, .ref s20, .int (-1), .int 0, .int 0, .int 0, .int 0, .int 0, .ref s27, .int 0, .ref s29, .ref s30, .ref s31, .int 0, .int 0, .int 0, .ref s35, .ref s36, .ref s37, .long 0, .ref s39, .ref s40, .ref s41, .ref s42])), (s42, .inl (k42, 4, .inl (fun _ => 0)))] sz) := by
  refine Met.ofW (cc := cX12_back) (maxL := 3) (ret := (some .int)) (by decide) rfl ?_
  intro p e s m args below meth c s₁ B hml hv
  obtain ⟨rfl, hsz, hP, hK, hD0, hE⟩ := hv
  have hx := B.exec
  have hb := B.bytes
  have hr := B.returns
  have hts := atoms_spec (ws := .code yX12_back cX12_back 3 (some .int) :: wsA) B.pre
  have hq : ∀ w ∈ wsA, w.before _ s = true := fun w h => hts w (List.mem_cons_of_mem _ h)
  have hown : s.vm.findClass RX12 = some m.cls := findClass_of_methodNamed B.named
  have hlocks := B.notSynchronized
  subst hsz
  have hD := hD0.self (sz := s.heap.size)
  generalize hAe : va_A [(h0, .inr (12, [.ref s0, .int 0, .int 0, .ref s3, .ref s4, .ref s5, .ref s6, .ref s7, .int 0, .int 0, .int 0, .int 0, .int 0, .int 0, .int 0, .ref s15, .int 0, .ref s17, .int 0, .ref s19, .ref s20, .int (-1), .int 0, .int 0, .int 0, .int 0, .int 0, .ref s27, .int 0, .ref s29, .ref s30, .ref s31, .int 0, .int 0, .int 0, .ref s35, .ref s36, .ref s37, .long 0, .ref s39, .ref s40, .ref s41, .ref s42])), (s42, .inl (k42, 4, .inl (fun _ => 0)))] s.heap.size = A at hD ⊢
  have hA : ∀ q : Nat, s.heap.size ≤ q → A q := fun q h => by rw [← hAe]; exact Or.inr h
  have hS : va_S A s.heap s.heap [] := va_S.rf
  have hl := lv_entry ([.ref h0, .int 3]) (n := 3) (Nat.le_of_ble_eq_true rfl)
  rw [lg_entry_eq]
  generalize (lg_sl ([.ref h0, .int 3]) ++ List.replicate (3 - (lg_sl ([.ref h0, .int 3])).length) Slot.unset).toArray = ls at hl ⊢
  have hl : lv_has ls 3 [(0, .ref h0), (1, .int 3)] := hl
  refine lv_iload_n hx hb dX12_back_0 rfl (lv_at hl 1 rfl) ?_
  refine lv_i2l hx hb dX12_back_1 rfl ?_
  refine lv_topl (fun y_1 ey_1 => ?_)
  obtain rfl : y_1 = 3 := ey_1.trans (by decide)
  refine lv_lconst (v := 0) hx hb dX12_back_2 (by decide) ?_
  refine lv_ldc2 (v := 3) hx hb hown (hq _ qw_1794) dX12_back_3 ?_
  have hPc := hP.sub (ws' := []) [] rfl
  have hDc := hD.sub (ws' := []) [] (by decide) rfl
  have hKc := hK.sub (tys' := []) [] rfl
  have hFc := va_free (wc := []) hD hS hA [] rfl
  refine va_calli (va_runS (As := [.long 3, .long 0, .long 3]) (rest := []) ⟨hx, hb, hml, hown, hq⟩ (c_M_in_3 l dC dI _  ) (cwS 3 hq (gS qw_1364 qw_1365 qw_131 qw_1366) rfl rfl rfl (by decide +kernel) ⟨Nat.le_of_ble_eq_true rfl, Nat.le_of_ble_eq_true rfl⟩) ⟨fun a U g mk q => by obtain ⟨q0, q1, qP, qK, qD, qE⟩ := q; exact ⟨q0, q1, qP, va_K.moved (u := U) (U := U.calling g mk a) (Vm.Alike.refl U.vm) qK, qD, xE.same rfl qE⟩, fun U hU hW => ⟨rfl, by rw [hU], by rw [hU]; exact hPc, va_K.moved hW.alike hKc, hDc.weaken (fun _ _ _ _ => trivial), xE.warm hW hE⟩⟩ rfl rfl hl.1 rfl (lv_room (Nat.le_of_ble_eq_true rfl)) dX12_back_6 ⟨Nat.le_of_ble_eq_true rfl, Nat.le_of_ble_eq_true rfl⟩) hS (fun q _ h => hFc q h) hFc (fun r_2 u t H1 locs ht hvm hw hB hz1 hk1 hS => ?_)
  obtain ⟨hP1, hK1, hD1⟩ := hB
  rw [ht] at hP1
  have hK1 := va_K.moved hvm.symm hK1
  obtain ⟨hP, hD⟩ := va_join (wr := [(h0, .inr (12, [.ref s0, .int 0, .int 0, .ref s3, .ref s4, .ref s5, .ref s6, .ref s7, .int 0, .int 0, .int 0, .int 0, .int 0, .int 0, .int 0, .ref s15, .int 0, .ref s17, .int 0, .ref s19, .ref s20, .int (-1), .int 0, .int 0, .int 0, .int 0, .int 0, .ref s27, .int 0, .ref s29, .ref s30, .ref s31, .int 0, .int 0, .int 0, .ref s35, .ref s36, .ref s37, .long 0, .ref s39, .ref s40, .ref s41, .ref s42])), (s42, .inl (k42, 4, .inl (fun _ => 0)))]) (w1 := []) hP hD [] [0, 1] rfl rfl (by decide) (by decide) hk1 hFc hP1 hD1
  generalize H1 = H at hP hS ⊢
  have hP : va_P (dC, dI) classes [(h0, .inr (12, [.ref s0, .int 0, .int 0, .ref s3, .ref s4, .ref s5, .ref s6, .ref s7, .int 0, .int 0, .int 0, .int 0, .int 0, .int 0, .int 0, .ref s15, .int 0, .ref s17, .int 0, .ref s19, .ref s20, .int (-1), .int 0, .int 0, .int 0, .int 0, .int 0, .ref s27, .int 0, .ref s29, .ref s30, .ref s31, .int 0, .int 0, .int 0, .ref s35, .ref s36, .ref s37, .long 0, .ref s39, .ref s40, .ref s41, .ref s42])), (s42, .inl (k42, 4, .inl (fun _ => 0)))] H := hP
  have hD : va_D A [(h0, .inr (12, [.ref s0, .int 0, .int 0, .ref s3, .ref s4, .ref s5, .ref s6, .ref s7, .int 0, .int 0, .int 0, .int 0, .int 0, .int 0, .int 0, .ref s15, .int 0, .ref s17, .int 0, .ref s19, .ref s20, .int (-1), .int 0, .int 0, .int 0, .int 0, .int 0, .ref s27, .int 0, .ref s29, .ref s30, .ref s31, .int 0, .int 0, .int 0, .ref s35, .ref s36, .ref s37, .long 0, .ref s39, .ref s40, .ref s41, .ref s42])), (s42, .inl (k42, 4, .inl (fun _ => 0)))] := hD
  obtain rfl : r_2 = 1 := hw
  refine lv_if_eq (tgt := 21) hx hb dX12_back_9 (by decide) (fun c9 => absurd c9 (by decide)) (fun _ => ?_)
  refine lv_aload_n hx hb dX12_back_12 rfl (lv_at hl 0 rfl) ?_
  refine va_get (D := (dC, dI)) (ci := 12) (v := .ref s42) (C := RX12) (T := TX12) (N := 43) hx hb hq inX12 hown hK hP 0 rfl rfl 42 (by decide) (hq _ qw_1202) (fun _ h9 => h9) rfl dX12_back_13 ?_
  refine lv_iload_n hx hb dX12_back_16 rfl (lv_at hl 1 rfl) ?_
  refine va_zald hx hb hK hP 1 0 rfl rfl (inr_ok rfl) dX12_back_17 ?_
  refine lv_topi (fun y_3 ey_3 => ?_)
  obtain rfl : y_3 = 0 := ey_3.trans (rfl)
  refine lv_if_ne (tgt := 23) hx hb dX12_back_18 (by decide) (fun c9 => absurd c9 (by decide)) (fun _ => ?_)
  refine lv_iconst (v := (-1)) hx hb dX12_back_21 (by decide) ?_
  refine W.widen (k := 0) (n := 0) (Nat.le_of_ble_eq_true rfl) (Nat.le_of_ble_eq_true rfl) ?_
  exact W.iret (v := (-1)) hx hb hr (fun t ht hW => ⟨⟨(-1), (), rfl, rfl, trivial⟩, hS.F ht⟩) hS.2.2 dX12_back_22

set_option maxHeartbeats 4000000 in
set_option maxRecDepth 100000 in
/-- c_M_image_out -/
theorem c_M_image_out (l : Launch) (dC : Nat → ClassId) (dI : Nat → Nat → Nat) (sz : Nat) (h0 : Nat) (s0 : Nat) (s3 : Nat) (s4 : Nat) (s5 : Nat) (s6 : Nat) (s7 : Nat) (s15 : Nat) (s17 : Nat) (s19 : Nat) (s20 : Nat) (s27 : Nat) (s29 : Nat) (s30 : Nat) (s31 : Nat) (s35 : Nat) (s36 : Nat) (s37 : Nat) (s39 : Nat) (s40 : Nat) (s41 : Nat) (s42 : Nat) (x0 : Int32) (hk : x0 < 0 ∨ 3 < x0) : Met l yX12_image (.code yX12_image cX12_image 3 (some .int) :: wsA) ({ frames := 1, cells := 0, slots := 0, locals := 25 }) (va_Pc [.ref h0, .int x0] (fun U => U.heap.size = sz ∧ va_P (dC, dI) classes [(h0, .inr (12, [.ref s0, .int 0, .int 0, .ref s3, .ref s4, .ref s5, .ref s6, .ref s7, .int 0, .int 0, .int 0, .int 0, .int 0, .int 0, .int 0, .ref s15, .int 0, .ref s17, .int 0, .ref s19, .ref s20, .int (-1), .int 0, .int 0, .int 0, .int 0, .int 0, .ref s27, .int 0, .ref s29, .ref s30, .ref s31, .int 0, .int 0, .int 0, .ref s35, .ref s36, .ref s37, .long 0, .ref s39, .ref s40, .ref s41, .ref s42]))] U.heap ∧ va_K (dC, dI) classes [] U ∧ va_D (fun _ => True) [(h0, .inr (12, [.ref s0, .int 0, .int 0, .ref s3, .ref s4, .ref s5, .ref s6, .ref s7, .int 0, .int 0, .int 0, .int 0, .int 0, .int 0, .int 0, .ref s15, .int 0, .ref s17, .int 0, .ref s19, .ref s20, .int (-1), .int 0, .int 0, .int 0, .int 0, .int 0, .ref s27, .int 0, .ref s29, .ref s30, .ref s31, .int 0, .int 0, .int 0, .ref s35, .ref s36, .ref s37, .long 0, .ref s39, .ref s40, .ref s41, .ref s42]))] ∧ xE U)) (va_Qi (fun (r : Int32) (_ : Unit) => r = (-1)) (fun _ _ => True) (va_A [(h0, .inr (12, [.ref s0, .int 0, .int 0, .ref s3, .ref s4, .ref s5, .ref s6, .ref s7, .int 0, .int 0, .int 0, .int 0, .int 0, .int 0, .int 0, .ref s15, .int 0, .ref s17, .int 0, .ref s19, .ref s20, .int (-1), .int 0, .int 0, .int 0, .int 0, .int 0, .ref s27, .int 0, .ref s29, .ref s30, .ref s31, .int 0, .int 0, .int 0, .ref s35, .ref s36, .ref s37, .long 0, .ref s39, .ref s40, .ref s41, .ref s42]))] sz)) 0 0 (va_A [(h0, .inr (12, [.ref s0, .int 0, .int 0, .ref s3, .ref s4, .ref s5, .ref s6, .ref s7, .int 0, .int 0, .int 0, .int 0, .int 0, .int 0, .int 0, .ref s15, .int 0, .ref s17, .int 0, .ref s19, .ref s20, .int (-1), .int 0, .int 0, .int 0, .int 0, .int 0, .ref s27, .int 0, .ref s29, .ref s30, .ref s31, .int 0, .int 0, .int 0, .ref s35, .ref s36, .ref s37, .long 0, .ref s39, .ref s40, .ref s41, .ref s42]))] sz) := by
  refine Met.ofW (cc := cX12_image) (maxL := 3) (ret := (some .int)) (by decide) rfl ?_
  intro p e s m args below meth c s₁ B hml hv
  obtain ⟨rfl, hsz, hP, hK, hD0, hE⟩ := hv
  have hx := B.exec
  have hb := B.bytes
  have hr := B.returns
  have hts := atoms_spec (ws := .code yX12_image cX12_image 3 (some .int) :: wsA) B.pre
  have hq : ∀ w ∈ wsA, w.before _ s = true := fun w h => hts w (List.mem_cons_of_mem _ h)
  have hown : s.vm.findClass RX12 = some m.cls := findClass_of_methodNamed B.named
  have hlocks := B.notSynchronized
  subst hsz
  have hD := hD0.self (sz := s.heap.size)
  generalize hAe : va_A [(h0, .inr (12, [.ref s0, .int 0, .int 0, .ref s3, .ref s4, .ref s5, .ref s6, .ref s7, .int 0, .int 0, .int 0, .int 0, .int 0, .int 0, .int 0, .ref s15, .int 0, .ref s17, .int 0, .ref s19, .ref s20, .int (-1), .int 0, .int 0, .int 0, .int 0, .int 0, .ref s27, .int 0, .ref s29, .ref s30, .ref s31, .int 0, .int 0, .int 0, .ref s35, .ref s36, .ref s37, .long 0, .ref s39, .ref s40, .ref s41, .ref s42]))] s.heap.size = A at hD ⊢
  have hA : ∀ q : Nat, s.heap.size ≤ q → A q := fun q h => by rw [← hAe]; exact Or.inr h
  have hS : va_S A s.heap s.heap [] := va_S.rf
  have hl := lv_entry ([.ref h0, .int x0]) (n := 3) (Nat.le_of_ble_eq_true rfl)
  rw [lg_entry_eq]
  generalize (lg_sl ([.ref h0, .int x0]) ++ List.replicate (3 - (lg_sl ([.ref h0, .int x0])).length) Slot.unset).toArray = ls at hl ⊢
  have hl : lv_has ls 3 [(0, .ref h0), (1, .int x0)] := hl
  refine lv_iload_n hx hb dX12_image_0 rfl (lv_at hl 1 rfl) ?_
  refine lv_i2l hx hb dX12_image_1 rfl ?_
  refine lv_lconst (v := 0) hx hb dX12_image_2 (by decide) ?_
  refine lv_ldc2 (v := 3) hx hb hown (hq _ qw_1794) dX12_image_3 ?_
  have hPc := hP.sub (ws' := []) [] rfl
  have hDc := hD.sub (ws' := []) [] (by decide) rfl
  have hKc := hK.sub (tys' := []) [] rfl
  have hFc := va_free (wc := []) hD hS hA [] rfl
  refine va_calli (va_runS (As := [.long x0.toInt64, .long 0, .long 3]) (rest := []) ⟨hx, hb, hml, hown, hq⟩ (c_M_in_out l dC dI _ x0.toInt64 (out64 hk)) (cwS 3 hq (gS qw_1364 qw_1365 qw_131 qw_1366) rfl rfl rfl (by decide +kernel) ⟨Nat.le_of_ble_eq_true rfl, Nat.le_of_ble_eq_true rfl⟩) ⟨fun a U g mk q => by obtain ⟨q0, q1, qP, qK, qD, qE⟩ := q; exact ⟨q0, q1, qP, va_K.moved (u := U) (U := U.calling g mk a) (Vm.Alike.refl U.vm) qK, qD, xE.same rfl qE⟩, fun U hU hW => ⟨rfl, by rw [hU], by rw [hU]; exact hPc, va_K.moved hW.alike hKc, hDc.weaken (fun _ _ _ _ => trivial), xE.warm hW hE⟩⟩ rfl rfl hl.1 rfl (lv_room (Nat.le_of_ble_eq_true rfl)) dX12_image_6 ⟨Nat.le_of_ble_eq_true rfl, Nat.le_of_ble_eq_true rfl⟩) hS (fun q _ h => hFc q h) hFc (fun r_1 u t H1 locs ht hvm hw hB hz1 hk1 hS => ?_)
  obtain ⟨hP1, hK1, hD1⟩ := hB
  rw [ht] at hP1
  have hK1 := va_K.moved hvm.symm hK1
  obtain ⟨hP, hD⟩ := va_join (wr := [(h0, .inr (12, [.ref s0, .int 0, .int 0, .ref s3, .ref s4, .ref s5, .ref s6, .ref s7, .int 0, .int 0, .int 0, .int 0, .int 0, .int 0, .int 0, .ref s15, .int 0, .ref s17, .int 0, .ref s19, .ref s20, .int (-1), .int 0, .int 0, .int 0, .int 0, .int 0, .ref s27, .int 0, .ref s29, .ref s30, .ref s31, .int 0, .int 0, .int 0, .ref s35, .ref s36, .ref s37, .long 0, .ref s39, .ref s40, .ref s41, .ref s42]))]) (w1 := []) hP hD [] [0] rfl rfl (by decide) (by decide) hk1 hFc hP1 hD1
  generalize H1 = H at hP hS ⊢
  have hP : va_P (dC, dI) classes [(h0, .inr (12, [.ref s0, .int 0, .int 0, .ref s3, .ref s4, .ref s5, .ref s6, .ref s7, .int 0, .int 0, .int 0, .int 0, .int 0, .int 0, .int 0, .ref s15, .int 0, .ref s17, .int 0, .ref s19, .ref s20, .int (-1), .int 0, .int 0, .int 0, .int 0, .int 0, .ref s27, .int 0, .ref s29, .ref s30, .ref s31, .int 0, .int 0, .int 0, .ref s35, .ref s36, .ref s37, .long 0, .ref s39, .ref s40, .ref s41, .ref s42]))] H := hP
  have hD : va_D A [(h0, .inr (12, [.ref s0, .int 0, .int 0, .ref s3, .ref s4, .ref s5, .ref s6, .ref s7, .int 0, .int 0, .int 0, .int 0, .int 0, .int 0, .int 0, .ref s15, .int 0, .ref s17, .int 0, .ref s19, .ref s20, .int (-1), .int 0, .int 0, .int 0, .int 0, .int 0, .ref s27, .int 0, .ref s29, .ref s30, .ref s31, .int 0, .int 0, .int 0, .ref s35, .ref s36, .ref s37, .long 0, .ref s39, .ref s40, .ref s41, .ref s42]))] := hD
  obtain rfl : r_1 = 0 := hw
  refine lv_if_ne (tgt := 14) hx hb dX12_image_9 (by decide) (fun c9 => absurd c9 (by decide)) (fun _ => ?_)
  refine lv_iconst (v := (-1)) hx hb dX12_image_12 (by decide) ?_
  refine W.widen (k := 0) (n := 0) (Nat.le_of_ble_eq_true rfl) (Nat.le_of_ble_eq_true rfl) ?_
  exact W.iret (v := (-1)) hx hb hr (fun t ht hW => ⟨⟨(-1), (), rfl, rfl, trivial⟩, hS.F ht⟩) hS.2.2 dX12_image_13

set_option maxHeartbeats 4000000 in
set_option maxRecDepth 100000 in
/-- c_M_back_out -/
theorem c_M_back_out (l : Launch) (dC : Nat → ClassId) (dI : Nat → Nat → Nat) (sz : Nat) (h0 : Nat) (s0 : Nat) (s3 : Nat) (s4 : Nat) (s5 : Nat) (s6 : Nat) (s7 : Nat) (s15 : Nat) (s17 : Nat) (s19 : Nat) (s20 : Nat) (s27 : Nat) (s29 : Nat) (s30 : Nat) (s31 : Nat) (s35 : Nat) (s36 : Nat) (s37 : Nat) (s39 : Nat) (s40 : Nat) (s41 : Nat) (s42 : Nat) (x0 : Int32) (hk : x0 < 0 ∨ 3 < x0) : Met l yX12_back (.code yX12_back cX12_back 3 (some .int) :: wsA) ({ frames := 1, cells := 0, slots := 0, locals := 25 }) (va_Pc [.ref h0, .int x0] (fun U => U.heap.size = sz ∧ va_P (dC, dI) classes [(h0, .inr (12, [.ref s0, .int 0, .int 0, .ref s3, .ref s4, .ref s5, .ref s6, .ref s7, .int 0, .int 0, .int 0, .int 0, .int 0, .int 0, .int 0, .ref s15, .int 0, .ref s17, .int 0, .ref s19, .ref s20, .int (-1), .int 0, .int 0, .int 0, .int 0, .int 0, .ref s27, .int 0, .ref s29, .ref s30, .ref s31, .int 0, .int 0, .int 0, .ref s35, .ref s36, .ref s37, .long 0, .ref s39, .ref s40, .ref s41, .ref s42]))] U.heap ∧ va_K (dC, dI) classes [] U ∧ va_D (fun _ => True) [(h0, .inr (12, [.ref s0, .int 0, .int 0, .ref s3, .ref s4, .ref s5, .ref s6, .ref s7, .int 0, .int 0, .int 0, .int 0, .int 0, .int 0, .int 0, .ref s15, .int 0, .ref s17, .int 0, .ref s19, .ref s20, .int (-1), .int 0, .int 0, .int 0, .int 0, .int 0, .ref s27, .int 0, .ref s29, .ref s30, .ref s31, .int 0, .int 0, .int 0, .ref s35, .ref s36, .ref s37, .long 0, .ref s39, .ref s40, .ref s41, .ref s42]))] ∧ xE U)) (va_Qi (fun (r : Int32) (_ : Unit) => r = (-1)) (fun _ _ => True) (va_A [(h0, .inr (12, [.ref s0, .int 0, .int 0, .ref s3, .ref s4, .ref s5, .ref s6, .ref s7, .int 0, .int 0, .int 0, .int 0, .int 0, .int 0, .int 0, .ref s15, .int 0, .ref s17, .int 0, .ref s19, .ref s20, .int (-1), .int 0, .int 0, .int 0, .int 0, .int 0, .ref s27, .int 0, .ref s29, .ref s30, .ref s31, .int 0, .int 0, .int 0, .ref s35, .ref s36, .ref s37, .long 0, .ref s39, .ref s40, .ref s41, .ref s42]))] sz)) 0 0 (va_A [(h0, .inr (12, [.ref s0, .int 0, .int 0, .ref s3, .ref s4, .ref s5, .ref s6, .ref s7, .int 0, .int 0, .int 0, .int 0, .int 0, .int 0, .int 0, .ref s15, .int 0, .ref s17, .int 0, .ref s19, .ref s20, .int (-1), .int 0, .int 0, .int 0, .int 0, .int 0, .ref s27, .int 0, .ref s29, .ref s30, .ref s31, .int 0, .int 0, .int 0, .ref s35, .ref s36, .ref s37, .long 0, .ref s39, .ref s40, .ref s41, .ref s42]))] sz) := by
  refine Met.ofW (cc := cX12_back) (maxL := 3) (ret := (some .int)) (by decide) rfl ?_
  intro p e s m args below meth c s₁ B hml hv
  obtain ⟨rfl, hsz, hP, hK, hD0, hE⟩ := hv
  have hx := B.exec
  have hb := B.bytes
  have hr := B.returns
  have hts := atoms_spec (ws := .code yX12_back cX12_back 3 (some .int) :: wsA) B.pre
  have hq : ∀ w ∈ wsA, w.before _ s = true := fun w h => hts w (List.mem_cons_of_mem _ h)
  have hown : s.vm.findClass RX12 = some m.cls := findClass_of_methodNamed B.named
  have hlocks := B.notSynchronized
  subst hsz
  have hD := hD0.self (sz := s.heap.size)
  generalize hAe : va_A [(h0, .inr (12, [.ref s0, .int 0, .int 0, .ref s3, .ref s4, .ref s5, .ref s6, .ref s7, .int 0, .int 0, .int 0, .int 0, .int 0, .int 0, .int 0, .ref s15, .int 0, .ref s17, .int 0, .ref s19, .ref s20, .int (-1), .int 0, .int 0, .int 0, .int 0, .int 0, .ref s27, .int 0, .ref s29, .ref s30, .ref s31, .int 0, .int 0, .int 0, .ref s35, .ref s36, .ref s37, .long 0, .ref s39, .ref s40, .ref s41, .ref s42]))] s.heap.size = A at hD ⊢
  have hA : ∀ q : Nat, s.heap.size ≤ q → A q := fun q h => by rw [← hAe]; exact Or.inr h
  have hS : va_S A s.heap s.heap [] := va_S.rf
  have hl := lv_entry ([.ref h0, .int x0]) (n := 3) (Nat.le_of_ble_eq_true rfl)
  rw [lg_entry_eq]
  generalize (lg_sl ([.ref h0, .int x0]) ++ List.replicate (3 - (lg_sl ([.ref h0, .int x0])).length) Slot.unset).toArray = ls at hl ⊢
  have hl : lv_has ls 3 [(0, .ref h0), (1, .int x0)] := hl
  refine lv_iload_n hx hb dX12_back_0 rfl (lv_at hl 1 rfl) ?_
  refine lv_i2l hx hb dX12_back_1 rfl ?_
  refine lv_lconst (v := 0) hx hb dX12_back_2 (by decide) ?_
  refine lv_ldc2 (v := 3) hx hb hown (hq _ qw_1794) dX12_back_3 ?_
  have hPc := hP.sub (ws' := []) [] rfl
  have hDc := hD.sub (ws' := []) [] (by decide) rfl
  have hKc := hK.sub (tys' := []) [] rfl
  have hFc := va_free (wc := []) hD hS hA [] rfl
  refine va_calli (va_runS (As := [.long x0.toInt64, .long 0, .long 3]) (rest := []) ⟨hx, hb, hml, hown, hq⟩ (c_M_in_out l dC dI _ x0.toInt64 (out64 hk)) (cwS 3 hq (gS qw_1364 qw_1365 qw_131 qw_1366) rfl rfl rfl (by decide +kernel) ⟨Nat.le_of_ble_eq_true rfl, Nat.le_of_ble_eq_true rfl⟩) ⟨fun a U g mk q => by obtain ⟨q0, q1, qP, qK, qD, qE⟩ := q; exact ⟨q0, q1, qP, va_K.moved (u := U) (U := U.calling g mk a) (Vm.Alike.refl U.vm) qK, qD, xE.same rfl qE⟩, fun U hU hW => ⟨rfl, by rw [hU], by rw [hU]; exact hPc, va_K.moved hW.alike hKc, hDc.weaken (fun _ _ _ _ => trivial), xE.warm hW hE⟩⟩ rfl rfl hl.1 rfl (lv_room (Nat.le_of_ble_eq_true rfl)) dX12_back_6 ⟨Nat.le_of_ble_eq_true rfl, Nat.le_of_ble_eq_true rfl⟩) hS (fun q _ h => hFc q h) hFc (fun r_1 u t H1 locs ht hvm hw hB hz1 hk1 hS => ?_)
  obtain ⟨hP1, hK1, hD1⟩ := hB
  rw [ht] at hP1
  have hK1 := va_K.moved hvm.symm hK1
  obtain ⟨hP, hD⟩ := va_join (wr := [(h0, .inr (12, [.ref s0, .int 0, .int 0, .ref s3, .ref s4, .ref s5, .ref s6, .ref s7, .int 0, .int 0, .int 0, .int 0, .int 0, .int 0, .int 0, .ref s15, .int 0, .ref s17, .int 0, .ref s19, .ref s20, .int (-1), .int 0, .int 0, .int 0, .int 0, .int 0, .ref s27, .int 0, .ref s29, .ref s30, .ref s31, .int 0, .int 0, .int 0, .ref s35, .ref s36, .ref s37, .long 0, .ref s39, .ref s40, .ref s41, .ref s42]))]) (w1 := []) hP hD [] [0] rfl rfl (by decide) (by decide) hk1 hFc hP1 hD1
  generalize H1 = H at hP hS ⊢
  have hP : va_P (dC, dI) classes [(h0, .inr (12, [.ref s0, .int 0, .int 0, .ref s3, .ref s4, .ref s5, .ref s6, .ref s7, .int 0, .int 0, .int 0, .int 0, .int 0, .int 0, .int 0, .ref s15, .int 0, .ref s17, .int 0, .ref s19, .ref s20, .int (-1), .int 0, .int 0, .int 0, .int 0, .int 0, .ref s27, .int 0, .ref s29, .ref s30, .ref s31, .int 0, .int 0, .int 0, .ref s35, .ref s36, .ref s37, .long 0, .ref s39, .ref s40, .ref s41, .ref s42]))] H := hP
  have hD : va_D A [(h0, .inr (12, [.ref s0, .int 0, .int 0, .ref s3, .ref s4, .ref s5, .ref s6, .ref s7, .int 0, .int 0, .int 0, .int 0, .int 0, .int 0, .int 0, .ref s15, .int 0, .ref s17, .int 0, .ref s19, .ref s20, .int (-1), .int 0, .int 0, .int 0, .int 0, .int 0, .ref s27, .int 0, .ref s29, .ref s30, .ref s31, .int 0, .int 0, .int 0, .ref s35, .ref s36, .ref s37, .long 0, .ref s39, .ref s40, .ref s41, .ref s42]))] := hD
  obtain rfl : r_1 = 0 := hw
  refine lv_if_eq (tgt := 21) hx hb dX12_back_9 (by decide) (fun _ => ?_) (fun c9 => absurd c9 (by decide))
  refine lv_iconst (v := (-1)) hx hb dX12_back_21 (by decide) ?_
  refine W.widen (k := 0) (n := 0) (Nat.le_of_ble_eq_true rfl) (Nat.le_of_ble_eq_true rfl) ?_
  exact W.iret (v := (-1)) hx hb hr (fun t ht hW => ⟨⟨(-1), (), rfl, rfl, trivial⟩, hS.F ht⟩) hS.2.2 dX12_back_22
