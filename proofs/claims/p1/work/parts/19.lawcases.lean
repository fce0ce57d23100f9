set_option maxHeartbeats 4000000 in
set_option maxRecDepth 100000 in
/-- knowing, the first call -/
theorem law_18 {p : Program} {l : Launch} {e : Env} {s : State} {m : MethodId} {below : List Frame} {meth : Method} {c : Code} {A : Nat → Prop} {kA vA : Nat → Nat} {dC : Nat → ClassId} {dI : Nat → Nat → Nat} {b : Nat} {xs : Nat → Int32} {xo : Nat} {mo : Nat} {xq1 : Nat} {xq3 : Nat} {xq7 : Nat} {xq12 : Nat} {xq14 : Nat} {xq24 : Nat} {xq34 : Nat} {xq36 : Nat} {xq38 : Nat} {xq48 : Nat} {xq51 : Nat} {xq53 : Nat} {xq55 : Nat} {xq57 : Nat} {xq59 : Nat} {xq16 : Nat} {xq17 : Nat} {xq18 : Nat} {xq19 : Nat} {mq1 : Nat} {mq3 : Nat} {mq5 : Nat} {mq7 : Nat} {mq9 : Nat} {mq11 : Nat} {mq13 : Nat} {mq15 : Nat} {mq17 : Nat} {mq19 : Nat} {mq21 : Nat} {mq23 : Nat} {mq25 : Nat} {mq27 : Nat} {mq29 : Nat} {mq31 : Nat} {mq33 : Nat} {mq35 : Nat} {mq37 : Nat} {mq39 : Nat} {mq41 : Nat} {mk20 : ClassId} (C0 : lw_At p s m meth c b 6 xs) (hA : ∀ q : Nat, s.heap.size ≤ q → A q) (hAq : ∀ q : Nat, A q → s.heap.size ≤ q) (hE : xE s) (hT : xT kA vA A s s.heap) (hK : va_K (dC, dI) classes [(mk20, .int)] s) {H : Heap} {locs : List Loc} (hP : va_P (dC, dI) classes [(xo, .inr (11, [.ref xq1, .int 0, .ref xq3, .ref xq7, .ref xq12, .int 0, .int (-1), .ref xq14, .ref xq24, .ref xq34, .ref xq36, .ref xq38, .ref xq48, .ref xq51, .ref xq53, .ref xq55, .ref xq57, .ref xq59, .int 0])), (xq14, .inr (1, [.int 0, .int 0, .int 0, .ref xq16, .ref xq17, .ref xq18, .ref xq19])), (mo, .inr (12, [.ref mq1, .int 0, .int 0, .ref mq3, .ref mq5, .ref mq7, .ref mq9, .ref mq11, .int 0, .int 0, .int 0, .int 0, .int 0, .int 0, .int 0, .ref mq13, .int 0, .ref mq15, .int 0, .ref mq17, .ref mq19, .int (-1), .int 0, .int 0, .int 0, .int 0, .int 0, .ref mq21, .int 0, .ref mq23, .ref mq25, .ref mq27, .int 0, .int 0, .int 0, .ref mq29, .ref mq31, .ref mq33, .long 0, .ref mq35, .ref mq37, .ref mq39, .ref mq41])), (mq19, .inl (mk20, 100, .inl (fun _ => 0)))] H) (hD : va_D A [(xo, .inr (11, [.ref xq1, .int 0, .ref xq3, .ref xq7, .ref xq12, .int 0, .int (-1), .ref xq14, .ref xq24, .ref xq34, .ref xq36, .ref xq38, .ref xq48, .ref xq51, .ref xq53, .ref xq55, .ref xq57, .ref xq59, .int 0])), (xq14, .inr (1, [.int 0, .int 0, .int 0, .ref xq16, .ref xq17, .ref xq18, .ref xq19])), (mo, .inr (12, [.ref mq1, .int 0, .int 0, .ref mq3, .ref mq5, .ref mq7, .ref mq9, .ref mq11, .int 0, .int 0, .int 0, .int 0, .int 0, .int 0, .int 0, .ref mq13, .int 0, .ref mq15, .int 0, .ref mq17, .ref mq19, .int (-1), .int 0, .int 0, .int 0, .int 0, .int 0, .ref mq21, .int 0, .ref mq23, .ref mq25, .ref mq27, .int 0, .int 0, .int 0, .ref mq29, .ref mq31, .ref mq33, .long 0, .ref mq35, .ref mq37, .ref mq39, .ref mq41])), (mq19, .inl (mk20, 100, .inl (fun _ => 0)))]) (hS : va_S A s.heap H locs) {ls : Array Slot} (hl : lv_has ls 4 [(3, .int 0), (2, .ref mo), (1, .ref xo), (0, .ref b)]) : W p l e room_1 s m #[Value.ref b] below meth c H locs 152 8829 (lw_Z below #[Value.ref b] s) (F0 m 646 ls []) := by
  obtain ⟨hx, hb, hr, hml, hown, hts, hX, hbl, hlocks, hgv⟩ := id C0
  have hown : s.vm.findClass RL = some m.cls := hown
  have hq : ∀ w ∈ wsA, w.before _ s = true := fun w h => hts w (List.mem_filter.mp h).1
  have hbA : ¬ A b := fun h => Nat.not_le.mpr hbl (hAq b h)
  obtain ⟨z1, ez1⟩ : ∃ z : Int32, z = xs 1 := ⟨_, rfl⟩
  refine lv_aload_n hx hb dL_law_646 rfl (lv_at hl 2 rfl) ?_
  refine lv_aload_n hx hb dL_law_647 rfl (lv_at hl 3 rfl) ?_
  refine lv_iload_n hx hb dL_law_648 rfl (lv_at hl 0 rfl) ?_
  refine lv_iconst (v := 1) hx hb dL_law_649 (by decide) ?_
  refine lv_iadd hx hb dL_law_650 ?_
  refine lv_topi (fun y_1 ey_1 => ?_)
  obtain rfl : y_1 = 1 := ey_1.trans (by decide)
  refine va_sld hx hb hX hbl hbA hS (inr_ok rfl) dL_law_651 ?_
  refine W.eq (g2 := F0 m 652 ls [.int z1, .ref xo]) (by rw [ez1]; rfl) ?_
  have hPc := hP.sub (ws' := [(xo, .inr (11, [.ref xq1, .int 0, .ref xq3, .ref xq7, .ref xq12, .int 0, .int (-1), .ref xq14, .ref xq24, .ref xq34, .ref xq36, .ref xq38, .ref xq48, .ref xq51, .ref xq53, .ref xq55, .ref xq57, .ref xq59, .int 0])), (xq14, .inr (1, [.int 0, .int 0, .int 0, .ref xq16, .ref xq17, .ref xq18, .ref xq19]))]) [0, 1] rfl
  have hDc := hD.sub (ws' := [(xo, .inr (11, [.ref xq1, .int 0, .ref xq3, .ref xq7, .ref xq12, .int 0, .int (-1), .ref xq14, .ref xq24, .ref xq34, .ref xq36, .ref xq38, .ref xq48, .ref xq51, .ref xq53, .ref xq55, .ref xq57, .ref xq59, .int 0])), (xq14, .inr (1, [.int 0, .int 0, .int 0, .ref xq16, .ref xq17, .ref xq18, .ref xq19]))]) [0, 1] (by decide) rfl
  have hKc := hK.sub (tys' := []) [] rfl
  have hFc := va_free (wc := [(xo, .inr (11, [.ref xq1, .int 0, .ref xq3, .ref xq7, .ref xq12, .int 0, .int (-1), .ref xq14, .ref xq24, .ref xq34, .ref xq36, .ref xq38, .ref xq48, .ref xq51, .ref xq53, .ref xq55, .ref xq57, .ref xq59, .int 0])), (xq14, .inr (1, [.int 0, .int 0, .int 0, .ref xq16, .ref xq17, .ref xq18, .ref xq19]))]) hD hS hA [0, 1] rfl
  refine va_calli (va_runV (As := [.int z1]) (rest := []) ⟨hx, hb, hml, hown, hq⟩ (c_SB_knowing l dC dI _ xo xq1 xq3 xq7 xq12 xq14 xq24 xq34 xq36 xq38 xq48 xq51 xq53 xq55 xq57 xq59 xq16 xq17 xq18 xq19 z1 ) (cwV 1 hq (gV qw_943 qw_944 qw_945 qw_119 qw_946) rfl rfl rfl (by decide +kernel) ⟨Nat.le_of_ble_eq_true rfl, Nat.le_of_ble_eq_true rfl⟩) ⟨fun a U g mk q => by obtain ⟨q0, q1, qP, qK, qD, qE⟩ := q; exact ⟨q0, q1, qP, va_K.moved (u := U) (U := U.calling g mk a) (Vm.Alike.refl U.vm) qK, qD, xE.same rfl qE⟩, va_recv hKc hPc (ci := 11) (q0 := 0) rfl rfl, fun U hU hW => ⟨rfl, by rw [hU], by rw [hU]; exact hPc, va_K.moved hW.alike hKc, hDc.weaken (fun _ _ _ _ => trivial), xE.warm hW hE⟩⟩ rfl rfl hl.1 rfl (lv_room (Nat.le_of_ble_eq_true rfl)) dL_law_652 ⟨Nat.le_of_ble_eq_true rfl, Nat.le_of_ble_eq_true rfl⟩) hS (fun q _ h => hFc q h) hFc (fun r_2 u t H1 locs ht hvm hw hB hz1 hk1 hS => ?_)
  have hP1 : va_P (dC, dI) classes [] H1 := vP_nil
  have hD1 : va_D (va_A [(xo, .inr (11, [.ref xq1, .int 0, .ref xq3, .ref xq7, .ref xq12, .int 0, .int (-1), .ref xq14, .ref xq24, .ref xq34, .ref xq36, .ref xq38, .ref xq48, .ref xq51, .ref xq53, .ref xq55, .ref xq57, .ref xq59, .int 0])), (xq14, .inr (1, [.int 0, .int 0, .int 0, .ref xq16, .ref xq17, .ref xq18, .ref xq19]))] H.size) [] := vD_nil
  obtain ⟨hP, hD⟩ := va_join (wr := [(mo, .inr (12, [.ref mq1, .int 0, .int 0, .ref mq3, .ref mq5, .ref mq7, .ref mq9, .ref mq11, .int 0, .int 0, .int 0, .int 0, .int 0, .int 0, .int 0, .ref mq13, .int 0, .ref mq15, .int 0, .ref mq17, .ref mq19, .int (-1), .int 0, .int 0, .int 0, .int 0, .int 0, .ref mq21, .int 0, .ref mq23, .ref mq25, .ref mq27, .int 0, .int 0, .int 0, .ref mq29, .ref mq31, .ref mq33, .long 0, .ref mq35, .ref mq37, .ref mq39, .ref mq41])), (mq19, .inl (mk20, 100, .inl (fun _ => 0)))]) (w1 := []) hP hD [0, 1] [2, 3] rfl rfl (by decide) (by decide) hk1 hFc hP1 hD1
  generalize H1 = H at hP hS ⊢
  have hP : va_P (dC, dI) classes [(mo, .inr (12, [.ref mq1, .int 0, .int 0, .ref mq3, .ref mq5, .ref mq7, .ref mq9, .ref mq11, .int 0, .int 0, .int 0, .int 0, .int 0, .int 0, .int 0, .ref mq13, .int 0, .ref mq15, .int 0, .ref mq17, .ref mq19, .int (-1), .int 0, .int 0, .int 0, .int 0, .int 0, .ref mq21, .int 0, .ref mq23, .ref mq25, .ref mq27, .int 0, .int 0, .int 0, .ref mq29, .ref mq31, .ref mq33, .long 0, .ref mq35, .ref mq37, .ref mq39, .ref mq41])), (mq19, .inl (mk20, 100, .inl (fun _ => 0)))] H := hP
  have hD : va_D A [(mo, .inr (12, [.ref mq1, .int 0, .int 0, .ref mq3, .ref mq5, .ref mq7, .ref mq9, .ref mq11, .int 0, .int 0, .int 0, .int 0, .int 0, .int 0, .int 0, .ref mq13, .int 0, .ref mq15, .int 0, .ref mq17, .ref mq19, .int (-1), .int 0, .int 0, .int 0, .int 0, .int 0, .ref mq21, .int 0, .ref mq23, .ref mq25, .ref mq27, .int 0, .int 0, .int 0, .ref mq29, .ref mq31, .ref mq33, .long 0, .ref mq35, .ref mq37, .ref mq39, .ref mq41])), (mq19, .inl (mk20, 100, .inl (fun _ => 0)))] := hD
  obtain rfl : r_2 = (-1) := hw
  refine lv_aload_n hx hb dL_law_655 rfl (lv_at hl 1 rfl) ?_
  refine lv_aload_n hx hb dL_law_656 rfl (lv_at hl 3 rfl) ?_
  refine lv_iload_n hx hb dL_law_657 rfl (lv_at hl 0 rfl) ?_
  refine lv_iconst (v := 1) hx hb dL_law_658 (by decide) ?_
  refine lv_iadd hx hb dL_law_659 ?_
  refine lv_topi (fun y_3 ey_3 => ?_)
  obtain rfl : y_3 = 1 := ey_3.trans (by decide)
  refine va_sld hx hb hX hbl hbA hS (inr_ok rfl) dL_law_660 ?_
  refine W.eq (g2 := F0 m 661 ls [.int z1, .ref mo, .int (-1)]) (by rw [ez1]; rfl) ?_
  have hPc := hP.sub (ws' := [(mo, .inr (12, [.ref mq1, .int 0, .int 0, .ref mq3, .ref mq5, .ref mq7, .ref mq9, .ref mq11, .int 0, .int 0, .int 0, .int 0, .int 0, .int 0, .int 0, .ref mq13, .int 0, .ref mq15, .int 0, .ref mq17, .ref mq19, .int (-1), .int 0, .int 0, .int 0, .int 0, .int 0, .ref mq21, .int 0, .ref mq23, .ref mq25, .ref mq27, .int 0, .int 0, .int 0, .ref mq29, .ref mq31, .ref mq33, .long 0, .ref mq35, .ref mq37, .ref mq39, .ref mq41])), (mq19, .inl (mk20, 100, .inl (fun _ => 0)))]) [0, 1] rfl
  have hDc := hD.sub (ws' := [(mo, .inr (12, [.ref mq1, .int 0, .int 0, .ref mq3, .ref mq5, .ref mq7, .ref mq9, .ref mq11, .int 0, .int 0, .int 0, .int 0, .int 0, .int 0, .int 0, .ref mq13, .int 0, .ref mq15, .int 0, .ref mq17, .ref mq19, .int (-1), .int 0, .int 0, .int 0, .int 0, .int 0, .ref mq21, .int 0, .ref mq23, .ref mq25, .ref mq27, .int 0, .int 0, .int 0, .ref mq29, .ref mq31, .ref mq33, .long 0, .ref mq35, .ref mq37, .ref mq39, .ref mq41])), (mq19, .inl (mk20, 100, .inl (fun _ => 0)))]) [0, 1] (by decide) rfl
  have hKc := hK.sub (tys' := [(mk20, .int)]) [0] rfl
  have hFc := va_free (wc := [(mo, .inr (12, [.ref mq1, .int 0, .int 0, .ref mq3, .ref mq5, .ref mq7, .ref mq9, .ref mq11, .int 0, .int 0, .int 0, .int 0, .int 0, .int 0, .int 0, .ref mq13, .int 0, .ref mq15, .int 0, .ref mq17, .ref mq19, .int (-1), .int 0, .int 0, .int 0, .int 0, .int 0, .ref mq21, .int 0, .ref mq23, .ref mq25, .ref mq27, .int 0, .int 0, .int 0, .ref mq29, .ref mq31, .ref mq33, .long 0, .ref mq35, .ref mq37, .ref mq39, .ref mq41])), (mq19, .inl (mk20, 100, .inl (fun _ => 0)))]) hD hS hA [0, 1] rfl
  refine va_calli (va_runV (As := [.int z1]) (rest := [.int (-1)]) ⟨hx, hb, hml, hown, hq⟩ (c_M_knowing l dC dI _ mo mq1 mq3 mq5 mq7 mq9 mq11 mq13 mq15 mq17 mq19 mq21 mq23 mq25 mq27 mq29 mq31 mq33 mq35 mq37 mq39 mq41 mk20 z1 ) (cwV 1 hq (gV qw_1644 qw_1645 qw_1646 qw_131 qw_1647) rfl rfl rfl (by decide +kernel) ⟨Nat.le_of_ble_eq_true rfl, Nat.le_of_ble_eq_true rfl⟩) ⟨fun a U g mk q => by obtain ⟨q0, q1, qP, qK, qD, qE⟩ := q; exact ⟨q0, q1, qP, va_K.moved (u := U) (U := U.calling g mk a) (Vm.Alike.refl U.vm) qK, qD, xE.same rfl qE⟩, va_recv hKc hPc (ci := 12) (q0 := 0) rfl rfl, fun U hU hW => ⟨rfl, by rw [hU], by rw [hU]; exact hPc, va_K.moved hW.alike hKc, hDc.weaken (fun _ _ _ _ => trivial), xE.warm hW hE⟩⟩ rfl rfl hl.1 rfl (lv_room (Nat.le_of_ble_eq_true rfl)) dL_law_661 ⟨Nat.le_of_ble_eq_true rfl, Nat.le_of_ble_eq_true rfl⟩) hS (fun q _ h => hFc q h) hFc (fun r_4 u t H1 locs ht hvm hw hB hz1 hk1 hS => ?_)
  have hP1 : va_P (dC, dI) classes [] H1 := vP_nil
  have hD1 : va_D (va_A [(mo, .inr (12, [.ref mq1, .int 0, .int 0, .ref mq3, .ref mq5, .ref mq7, .ref mq9, .ref mq11, .int 0, .int 0, .int 0, .int 0, .int 0, .int 0, .int 0, .ref mq13, .int 0, .ref mq15, .int 0, .ref mq17, .ref mq19, .int (-1), .int 0, .int 0, .int 0, .int 0, .int 0, .ref mq21, .int 0, .ref mq23, .ref mq25, .ref mq27, .int 0, .int 0, .int 0, .ref mq29, .ref mq31, .ref mq33, .long 0, .ref mq35, .ref mq37, .ref mq39, .ref mq41])), (mq19, .inl (mk20, 100, .inl (fun _ => 0)))] H.size) [] := vD_nil
  obtain ⟨hP, hD⟩ := va_join (wr := []) (w1 := []) hP hD [0, 1] [] rfl rfl (by decide) (by decide) hk1 hFc hP1 hD1
  generalize H1 = H at hP hS ⊢
  have hP : va_P (dC, dI) classes [] H := hP
  have hD : va_D A [] := hD
  obtain rfl : r_4 = (-1) := hw
  refine lv_icmp_eq (tgt := 1210) hx hb dL_law_664 (by decide) (fun _ => ?_) (fun c9 => absurd c9 (by decide))
  exact law_end C0 hAq hS (lv_sub hl [0, 1, 2, 3] rfl)
set_option maxHeartbeats 4000000 in
set_option maxRecDepth 100000 in
/-- bestRow, the first call -/
theorem law_19 {p : Program} {l : Launch} {e : Env} {s : State} {m : MethodId} {below : List Frame} {meth : Method} {c : Code} {A : Nat → Prop} {kA vA : Nat → Nat} {dC : Nat → ClassId} {dI : Nat → Nat → Nat} {b : Nat} {xs : Nat → Int32} {xo : Nat} {mo : Nat} {xq1 : Nat} {xq3 : Nat} {xq7 : Nat} {xq12 : Nat} {xq14 : Nat} {xq24 : Nat} {xq34 : Nat} {xq36 : Nat} {xq38 : Nat} {xq48 : Nat} {xq51 : Nat} {xq53 : Nat} {xq55 : Nat} {xq57 : Nat} {xq59 : Nat} {xq16 : Nat} {xq17 : Nat} {xq18 : Nat} {xq19 : Nat} {mq1 : Nat} {mq3 : Nat} {mq5 : Nat} {mq7 : Nat} {mq9 : Nat} {mq11 : Nat} {mq13 : Nat} {mq15 : Nat} {mq17 : Nat} {mq19 : Nat} {mq21 : Nat} {mq23 : Nat} {mq25 : Nat} {mq27 : Nat} {mq29 : Nat} {mq31 : Nat} {mq33 : Nat} {mq35 : Nat} {mq37 : Nat} {mq39 : Nat} {mq41 : Nat} {mk20 : ClassId} (C0 : lw_At p s m meth c b 6 xs) (hA : ∀ q : Nat, s.heap.size ≤ q → A q) (hAq : ∀ q : Nat, A q → s.heap.size ≤ q) (hE : xE s) (hT : xT kA vA A s s.heap) (hK : va_K (dC, dI) classes [(mk20, .int)] s) {H : Heap} {locs : List Loc} (hP : va_P (dC, dI) classes [(xo, .inr (11, [.ref xq1, .int 0, .ref xq3, .ref xq7, .ref xq12, .int 0, .int (-1), .ref xq14, .ref xq24, .ref xq34, .ref xq36, .ref xq38, .ref xq48, .ref xq51, .ref xq53, .ref xq55, .ref xq57, .ref xq59, .int 0])), (xq14, .inr (1, [.int 0, .int 0, .int 0, .ref xq16, .ref xq17, .ref xq18, .ref xq19])), (mo, .inr (12, [.ref mq1, .int 0, .int 0, .ref mq3, .ref mq5, .ref mq7, .ref mq9, .ref mq11, .int 0, .int 0, .int 0, .int 0, .int 0, .int 0, .int 0, .ref mq13, .int 0, .ref mq15, .int 0, .ref mq17, .ref mq19, .int (-1), .int 0, .int 0, .int 0, .int 0, .int 0, .ref mq21, .int 0, .ref mq23, .ref mq25, .ref mq27, .int 0, .int 0, .int 0, .ref mq29, .ref mq31, .ref mq33, .long 0, .ref mq35, .ref mq37, .ref mq39, .ref mq41])), (mq19, .inl (mk20, 100, .inl (fun _ => 0)))] H) (hD : va_D A [(xo, .inr (11, [.ref xq1, .int 0, .ref xq3, .ref xq7, .ref xq12, .int 0, .int (-1), .ref xq14, .ref xq24, .ref xq34, .ref xq36, .ref xq38, .ref xq48, .ref xq51, .ref xq53, .ref xq55, .ref xq57, .ref xq59, .int 0])), (xq14, .inr (1, [.int 0, .int 0, .int 0, .ref xq16, .ref xq17, .ref xq18, .ref xq19])), (mo, .inr (12, [.ref mq1, .int 0, .int 0, .ref mq3, .ref mq5, .ref mq7, .ref mq9, .ref mq11, .int 0, .int 0, .int 0, .int 0, .int 0, .int 0, .int 0, .ref mq13, .int 0, .ref mq15, .int 0, .ref mq17, .ref mq19, .int (-1), .int 0, .int 0, .int 0, .int 0, .int 0, .ref mq21, .int 0, .ref mq23, .ref mq25, .ref mq27, .int 0, .int 0, .int 0, .ref mq29, .ref mq31, .ref mq33, .long 0, .ref mq35, .ref mq37, .ref mq39, .ref mq41])), (mq19, .inl (mk20, 100, .inl (fun _ => 0)))]) (hS : va_S A s.heap H locs) {ls : Array Slot} (hl : lv_has ls 4 [(3, .int 0), (2, .ref mo), (1, .ref xo), (0, .ref b)]) : W p l e room_1 s m #[Value.ref b] below meth c H locs 152 8829 (lw_Z below #[Value.ref b] s) (F0 m 669 ls []) := by
  obtain ⟨hx, hb, hr, hml, hown, hts, hX, hbl, hlocks, hgv⟩ := id C0
  have hown : s.vm.findClass RL = some m.cls := hown
  have hq : ∀ w ∈ wsA, w.before _ s = true := fun w h => hts w (List.mem_filter.mp h).1
  have hbA : ¬ A b := fun h => Nat.not_le.mpr hbl (hAq b h)
  obtain ⟨z1, ez1⟩ : ∃ z : Int32, z = xs 1 := ⟨_, rfl⟩
  obtain ⟨z2, ez2⟩ : ∃ z : Int32, z = xs 2 := ⟨_, rfl⟩
  refine lv_aload_n hx hb dL_law_669 rfl (lv_at hl 2 rfl) ?_
  refine lv_aload_n hx hb dL_law_670 rfl (lv_at hl 3 rfl) ?_
  refine lv_iload_n hx hb dL_law_671 rfl (lv_at hl 0 rfl) ?_
  refine lv_iconst (v := 1) hx hb dL_law_672 (by decide) ?_
  refine lv_iadd hx hb dL_law_673 ?_
  refine lv_topi (fun y_1 ey_1 => ?_)
  obtain rfl : y_1 = 1 := ey_1.trans (by decide)
  refine va_sld hx hb hX hbl hbA hS (inr_ok rfl) dL_law_674 ?_
  refine W.eq (g2 := F0 m 675 ls [.int z1, .ref xo]) (by rw [ez1]; rfl) ?_
  refine lv_aload_n hx hb dL_law_675 rfl (lv_at hl 3 rfl) ?_
  refine lv_iload_n hx hb dL_law_676 rfl (lv_at hl 0 rfl) ?_
  refine lv_iconst (v := 2) hx hb dL_law_677 (by decide) ?_
  refine lv_iadd hx hb dL_law_678 ?_
  refine lv_topi (fun y_2 ey_2 => ?_)
  obtain rfl : y_2 = 2 := ey_2.trans (by decide)
  refine va_sld hx hb hX hbl hbA hS (inr_ok rfl) dL_law_679 ?_
  refine W.eq (g2 := F0 m 680 ls [.int z2, .int z1, .ref xo]) (by rw [ez2]; rfl) ?_
  have hPc := hP.sub (ws' := [(xo, .inr (11, [.ref xq1, .int 0, .ref xq3, .ref xq7, .ref xq12, .int 0, .int (-1), .ref xq14, .ref xq24, .ref xq34, .ref xq36, .ref xq38, .ref xq48, .ref xq51, .ref xq53, .ref xq55, .ref xq57, .ref xq59, .int 0])), (xq14, .inr (1, [.int 0, .int 0, .int 0, .ref xq16, .ref xq17, .ref xq18, .ref xq19]))]) [0, 1] rfl
  have hDc := hD.sub (ws' := [(xo, .inr (11, [.ref xq1, .int 0, .ref xq3, .ref xq7, .ref xq12, .int 0, .int (-1), .ref xq14, .ref xq24, .ref xq34, .ref xq36, .ref xq38, .ref xq48, .ref xq51, .ref xq53, .ref xq55, .ref xq57, .ref xq59, .int 0])), (xq14, .inr (1, [.int 0, .int 0, .int 0, .ref xq16, .ref xq17, .ref xq18, .ref xq19]))]) [0, 1] (by decide) rfl
  have hKc := hK.sub (tys' := []) [] rfl
  have hFc := va_free (wc := [(xo, .inr (11, [.ref xq1, .int 0, .ref xq3, .ref xq7, .ref xq12, .int 0, .int (-1), .ref xq14, .ref xq24, .ref xq34, .ref xq36, .ref xq38, .ref xq48, .ref xq51, .ref xq53, .ref xq55, .ref xq57, .ref xq59, .int 0])), (xq14, .inr (1, [.int 0, .int 0, .int 0, .ref xq16, .ref xq17, .ref xq18, .ref xq19]))]) hD hS hA [0, 1] rfl
  refine va_calli (va_runV (As := [.int z1, .int z2]) (rest := []) ⟨hx, hb, hml, hown, hq⟩ (c_SB_bestRow l dC dI _ xo xq1 xq3 xq7 xq12 xq14 xq24 xq34 xq36 xq38 xq48 xq51 xq53 xq55 xq57 xq59 xq16 xq17 xq18 xq19 z1 z2 ) (cwV 2 hq (gV qw_947 qw_948 qw_949 qw_119 qw_950) rfl rfl rfl (by decide +kernel) ⟨Nat.le_of_ble_eq_true rfl, Nat.le_of_ble_eq_true rfl⟩) ⟨fun a U g mk q => by obtain ⟨q0, q1, qP, qK, qD, qE⟩ := q; exact ⟨q0, q1, qP, va_K.moved (u := U) (U := U.calling g mk a) (Vm.Alike.refl U.vm) qK, qD, xE.same rfl qE⟩, va_recv hKc hPc (ci := 11) (q0 := 0) rfl rfl, fun U hU hW => ⟨rfl, by rw [hU], by rw [hU]; exact hPc, va_K.moved hW.alike hKc, hDc.weaken (fun _ _ _ _ => trivial), xE.warm hW hE⟩⟩ rfl rfl hl.1 rfl (lv_room (Nat.le_of_ble_eq_true rfl)) dL_law_680 ⟨Nat.le_of_ble_eq_true rfl, Nat.le_of_ble_eq_true rfl⟩) hS (fun q _ h => hFc q h) hFc (fun r_3 u t H1 locs ht hvm hw hB hz1 hk1 hS => ?_)
  have hP1 : va_P (dC, dI) classes [] H1 := vP_nil
  have hD1 : va_D (va_A [(xo, .inr (11, [.ref xq1, .int 0, .ref xq3, .ref xq7, .ref xq12, .int 0, .int (-1), .ref xq14, .ref xq24, .ref xq34, .ref xq36, .ref xq38, .ref xq48, .ref xq51, .ref xq53, .ref xq55, .ref xq57, .ref xq59, .int 0])), (xq14, .inr (1, [.int 0, .int 0, .int 0, .ref xq16, .ref xq17, .ref xq18, .ref xq19]))] H.size) [] := vD_nil
  obtain ⟨hP, hD⟩ := va_join (wr := [(mo, .inr (12, [.ref mq1, .int 0, .int 0, .ref mq3, .ref mq5, .ref mq7, .ref mq9, .ref mq11, .int 0, .int 0, .int 0, .int 0, .int 0, .int 0, .int 0, .ref mq13, .int 0, .ref mq15, .int 0, .ref mq17, .ref mq19, .int (-1), .int 0, .int 0, .int 0, .int 0, .int 0, .ref mq21, .int 0, .ref mq23, .ref mq25, .ref mq27, .int 0, .int 0, .int 0, .ref mq29, .ref mq31, .ref mq33, .long 0, .ref mq35, .ref mq37, .ref mq39, .ref mq41])), (mq19, .inl (mk20, 100, .inl (fun _ => 0)))]) (w1 := []) hP hD [0, 1] [2, 3] rfl rfl (by decide) (by decide) hk1 hFc hP1 hD1
  generalize H1 = H at hP hS ⊢
  have hP : va_P (dC, dI) classes [(mo, .inr (12, [.ref mq1, .int 0, .int 0, .ref mq3, .ref mq5, .ref mq7, .ref mq9, .ref mq11, .int 0, .int 0, .int 0, .int 0, .int 0, .int 0, .int 0, .ref mq13, .int 0, .ref mq15, .int 0, .ref mq17, .ref mq19, .int (-1), .int 0, .int 0, .int 0, .int 0, .int 0, .ref mq21, .int 0, .ref mq23, .ref mq25, .ref mq27, .int 0, .int 0, .int 0, .ref mq29, .ref mq31, .ref mq33, .long 0, .ref mq35, .ref mq37, .ref mq39, .ref mq41])), (mq19, .inl (mk20, 100, .inl (fun _ => 0)))] H := hP
  have hD : va_D A [(mo, .inr (12, [.ref mq1, .int 0, .int 0, .ref mq3, .ref mq5, .ref mq7, .ref mq9, .ref mq11, .int 0, .int 0, .int 0, .int 0, .int 0, .int 0, .int 0, .ref mq13, .int 0, .ref mq15, .int 0, .ref mq17, .ref mq19, .int (-1), .int 0, .int 0, .int 0, .int 0, .int 0, .ref mq21, .int 0, .ref mq23, .ref mq25, .ref mq27, .int 0, .int 0, .int 0, .ref mq29, .ref mq31, .ref mq33, .long 0, .ref mq35, .ref mq37, .ref mq39, .ref mq41])), (mq19, .inl (mk20, 100, .inl (fun _ => 0)))] := hD
  obtain rfl : r_3 = (-3) := hw
  refine lv_aload_n hx hb dL_law_683 rfl (lv_at hl 1 rfl) ?_
  refine lv_aload_n hx hb dL_law_684 rfl (lv_at hl 3 rfl) ?_
  refine lv_iload_n hx hb dL_law_685 rfl (lv_at hl 0 rfl) ?_
  refine lv_iconst (v := 1) hx hb dL_law_686 (by decide) ?_
  refine lv_iadd hx hb dL_law_687 ?_
  refine lv_topi (fun y_4 ey_4 => ?_)
  obtain rfl : y_4 = 1 := ey_4.trans (by decide)
  refine va_sld hx hb hX hbl hbA hS (inr_ok rfl) dL_law_688 ?_
  refine W.eq (g2 := F0 m 689 ls [.int z1, .ref mo, .int (-3)]) (by rw [ez1]; rfl) ?_
  refine lv_aload_n hx hb dL_law_689 rfl (lv_at hl 3 rfl) ?_
  refine lv_iload_n hx hb dL_law_690 rfl (lv_at hl 0 rfl) ?_
  refine lv_iconst (v := 2) hx hb dL_law_691 (by decide) ?_
  refine lv_iadd hx hb dL_law_692 ?_
  refine lv_topi (fun y_5 ey_5 => ?_)
  obtain rfl : y_5 = 2 := ey_5.trans (by decide)
  refine va_sld hx hb hX hbl hbA hS (inr_ok rfl) dL_law_693 ?_
  refine W.eq (g2 := F0 m 694 ls [.int z2, .int z1, .ref mo, .int (-3)]) (by rw [ez2]; rfl) ?_
  have hPc := hP.sub (ws' := [(mo, .inr (12, [.ref mq1, .int 0, .int 0, .ref mq3, .ref mq5, .ref mq7, .ref mq9, .ref mq11, .int 0, .int 0, .int 0, .int 0, .int 0, .int 0, .int 0, .ref mq13, .int 0, .ref mq15, .int 0, .ref mq17, .ref mq19, .int (-1), .int 0, .int 0, .int 0, .int 0, .int 0, .ref mq21, .int 0, .ref mq23, .ref mq25, .ref mq27, .int 0, .int 0, .int 0, .ref mq29, .ref mq31, .ref mq33, .long 0, .ref mq35, .ref mq37, .ref mq39, .ref mq41])), (mq19, .inl (mk20, 100, .inl (fun _ => 0)))]) [0, 1] rfl
  have hDc := hD.sub (ws' := [(mo, .inr (12, [.ref mq1, .int 0, .int 0, .ref mq3, .ref mq5, .ref mq7, .ref mq9, .ref mq11, .int 0, .int 0, .int 0, .int 0, .int 0, .int 0, .int 0, .ref mq13, .int 0, .ref mq15, .int 0, .ref mq17, .ref mq19, .int (-1), .int 0, .int 0, .int 0, .int 0, .int 0, .ref mq21, .int 0, .ref mq23, .ref mq25, .ref mq27, .int 0, .int 0, .int 0, .ref mq29, .ref mq31, .ref mq33, .long 0, .ref mq35, .ref mq37, .ref mq39, .ref mq41])), (mq19, .inl (mk20, 100, .inl (fun _ => 0)))]) [0, 1] (by decide) rfl
  have hKc := hK.sub (tys' := [(mk20, .int)]) [0] rfl
  have hFc := va_free (wc := [(mo, .inr (12, [.ref mq1, .int 0, .int 0, .ref mq3, .ref mq5, .ref mq7, .ref mq9, .ref mq11, .int 0, .int 0, .int 0, .int 0, .int 0, .int 0, .int 0, .ref mq13, .int 0, .ref mq15, .int 0, .ref mq17, .ref mq19, .int (-1), .int 0, .int 0, .int 0, .int 0, .int 0, .ref mq21, .int 0, .ref mq23, .ref mq25, .ref mq27, .int 0, .int 0, .int 0, .ref mq29, .ref mq31, .ref mq33, .long 0, .ref mq35, .ref mq37, .ref mq39, .ref mq41])), (mq19, .inl (mk20, 100, .inl (fun _ => 0)))]) hD hS hA [0, 1] rfl
  refine va_calli (va_runV (As := [.int z1, .int z2]) (rest := [.int (-3)]) ⟨hx, hb, hml, hown, hq⟩ (c_M_bestRow l dC dI _ mo mq1 mq3 mq5 mq7 mq9 mq11 mq13 mq15 mq17 mq19 mq21 mq23 mq25 mq27 mq29 mq31 mq33 mq35 mq37 mq39 mq41 mk20 z1 z2 ) (cwV 2 hq (gV qw_1648 qw_1649 qw_1650 qw_131 qw_1651) rfl rfl rfl (by decide +kernel) ⟨Nat.le_of_ble_eq_true rfl, Nat.le_of_ble_eq_true rfl⟩) ⟨fun a U g mk q => by obtain ⟨q0, q1, qP, qK, qD, qE⟩ := q; exact ⟨q0, q1, qP, va_K.moved (u := U) (U := U.calling g mk a) (Vm.Alike.refl U.vm) qK, qD, xE.same rfl qE⟩, va_recv hKc hPc (ci := 12) (q0 := 0) rfl rfl, fun U hU hW => ⟨rfl, by rw [hU], by rw [hU]; exact hPc, va_K.moved hW.alike hKc, hDc.weaken (fun _ _ _ _ => trivial), xE.warm hW hE⟩⟩ rfl rfl hl.1 rfl (lv_room (Nat.le_of_ble_eq_true rfl)) dL_law_694 ⟨Nat.le_of_ble_eq_true rfl, Nat.le_of_ble_eq_true rfl⟩) hS (fun q _ h => hFc q h) hFc (fun r_6 u t H1 locs ht hvm hw hB hz1 hk1 hS => ?_)
  have hP1 : va_P (dC, dI) classes [] H1 := vP_nil
  have hD1 : va_D (va_A [(mo, .inr (12, [.ref mq1, .int 0, .int 0, .ref mq3, .ref mq5, .ref mq7, .ref mq9, .ref mq11, .int 0, .int 0, .int 0, .int 0, .int 0, .int 0, .int 0, .ref mq13, .int 0, .ref mq15, .int 0, .ref mq17, .ref mq19, .int (-1), .int 0, .int 0, .int 0, .int 0, .int 0, .ref mq21, .int 0, .ref mq23, .ref mq25, .ref mq27, .int 0, .int 0, .int 0, .ref mq29, .ref mq31, .ref mq33, .long 0, .ref mq35, .ref mq37, .ref mq39, .ref mq41])), (mq19, .inl (mk20, 100, .inl (fun _ => 0)))] H.size) [] := vD_nil
  obtain ⟨hP, hD⟩ := va_join (wr := []) (w1 := []) hP hD [0, 1] [] rfl rfl (by decide) (by decide) hk1 hFc hP1 hD1
  generalize H1 = H at hP hS ⊢
  have hP : va_P (dC, dI) classes [] H := hP
  have hD : va_D A [] := hD
  obtain rfl : r_6 = (-3) := hw
  refine lv_icmp_eq (tgt := 1210) hx hb dL_law_697 (by decide) (fun _ => ?_) (fun c9 => absurd c9 (by decide))
  exact law_end C0 hAq hS (lv_sub hl [0, 1, 2, 3] rfl)
set_option maxHeartbeats 4000000 in
set_option maxRecDepth 100000 in
/-- hush, the first call -/
theorem law_20 {p : Program} {l : Launch} {e : Env} {s : State} {m : MethodId} {below : List Frame} {meth : Method} {c : Code} {A : Nat → Prop} {kA vA : Nat → Nat} {dC : Nat → ClassId} {dI : Nat → Nat → Nat} {b : Nat} {xs : Nat → Int32} {xo : Nat} {mo : Nat} {xq1 : Nat} {xq3 : Nat} {xq7 : Nat} {xq12 : Nat} {xq14 : Nat} {xq24 : Nat} {xq34 : Nat} {xq36 : Nat} {xq38 : Nat} {xq48 : Nat} {xq51 : Nat} {xq53 : Nat} {xq55 : Nat} {xq57 : Nat} {xq59 : Nat} {xq16 : Nat} {xq17 : Nat} {xq18 : Nat} {xq19 : Nat} {mq1 : Nat} {mq3 : Nat} {mq5 : Nat} {mq7 : Nat} {mq9 : Nat} {mq11 : Nat} {mq13 : Nat} {mq15 : Nat} {mq17 : Nat} {mq19 : Nat} {mq21 : Nat} {mq23 : Nat} {mq25 : Nat} {mq27 : Nat} {mq29 : Nat} {mq31 : Nat} {mq33 : Nat} {mq35 : Nat} {mq37 : Nat} {mq39 : Nat} {mq41 : Nat} {mk20 : ClassId} (C0 : lw_At p s m meth c b 6 xs) (hA : ∀ q : Nat, s.heap.size ≤ q → A q) (hAq : ∀ q : Nat, A q → s.heap.size ≤ q) (hE : xE s) (hT : xT kA vA A s s.heap) (hK : va_K (dC, dI) classes [(mk20, .int)] s) {H : Heap} {locs : List Loc} (hP : va_P (dC, dI) classes [(xo, .inr (11, [.ref xq1, .int 0, .ref xq3, .ref xq7, .ref xq12, .int 0, .int (-1), .ref xq14, .ref xq24, .ref xq34, .ref xq36, .ref xq38, .ref xq48, .ref xq51, .ref xq53, .ref xq55, .ref xq57, .ref xq59, .int 0])), (xq14, .inr (1, [.int 0, .int 0, .int 0, .ref xq16, .ref xq17, .ref xq18, .ref xq19])), (mo, .inr (12, [.ref mq1, .int 0, .int 0, .ref mq3, .ref mq5, .ref mq7, .ref mq9, .ref mq11, .int 0, .int 0, .int 0, .int 0, .int 0, .int 0, .int 0, .ref mq13, .int 0, .ref mq15, .int 0, .ref mq17, .ref mq19, .int (-1), .int 0, .int 0, .int 0, .int 0, .int 0, .ref mq21, .int 0, .ref mq23, .ref mq25, .ref mq27, .int 0, .int 0, .int 0, .ref mq29, .ref mq31, .ref mq33, .long 0, .ref mq35, .ref mq37, .ref mq39, .ref mq41])), (mq19, .inl (mk20, 100, .inl (fun _ => 0)))] H) (hD : va_D A [(xo, .inr (11, [.ref xq1, .int 0, .ref xq3, .ref xq7, .ref xq12, .int 0, .int (-1), .ref xq14, .ref xq24, .ref xq34, .ref xq36, .ref xq38, .ref xq48, .ref xq51, .ref xq53, .ref xq55, .ref xq57, .ref xq59, .int 0])), (xq14, .inr (1, [.int 0, .int 0, .int 0, .ref xq16, .ref xq17, .ref xq18, .ref xq19])), (mo, .inr (12, [.ref mq1, .int 0, .int 0, .ref mq3, .ref mq5, .ref mq7, .ref mq9, .ref mq11, .int 0, .int 0, .int 0, .int 0, .int 0, .int 0, .int 0, .ref mq13, .int 0, .ref mq15, .int 0, .ref mq17, .ref mq19, .int (-1), .int 0, .int 0, .int 0, .int 0, .int 0, .ref mq21, .int 0, .ref mq23, .ref mq25, .ref mq27, .int 0, .int 0, .int 0, .ref mq29, .ref mq31, .ref mq33, .long 0, .ref mq35, .ref mq37, .ref mq39, .ref mq41])), (mq19, .inl (mk20, 100, .inl (fun _ => 0)))]) (hS : va_S A s.heap H locs) {ls : Array Slot} (hl : lv_has ls 4 [(3, .int 0), (2, .ref mo), (1, .ref xo), (0, .ref b)]) : W p l e room_1 s m #[Value.ref b] below meth c H locs 152 8829 (lw_Z below #[Value.ref b] s) (F0 m 702 ls []) := by
  obtain ⟨hx, hb, hr, hml, hown, hts, hX, hbl, hlocks, hgv⟩ := id C0
  have hown : s.vm.findClass RL = some m.cls := hown
  have hq : ∀ w ∈ wsA, w.before _ s = true := fun w h => hts w (List.mem_filter.mp h).1
  have hbA : ¬ A b := fun h => Nat.not_le.mpr hbl (hAq b h)
  obtain ⟨z1, ez1⟩ : ∃ z : Int32, z = xs 1 := ⟨_, rfl⟩
  obtain ⟨z2, ez2⟩ : ∃ z : Int32, z = xs 2 := ⟨_, rfl⟩
  refine lv_aload_n hx hb dL_law_702 rfl (lv_at hl 2 rfl) ?_
  refine lv_aload_n hx hb dL_law_703 rfl (lv_at hl 3 rfl) ?_
  refine lv_iload_n hx hb dL_law_704 rfl (lv_at hl 0 rfl) ?_
  refine lv_iconst (v := 1) hx hb dL_law_705 (by decide) ?_
  refine lv_iadd hx hb dL_law_706 ?_
  refine lv_topi (fun y_1 ey_1 => ?_)
  obtain rfl : y_1 = 1 := ey_1.trans (by decide)
  refine va_sld hx hb hX hbl hbA hS (inr_ok rfl) dL_law_707 ?_
  refine W.eq (g2 := F0 m 708 ls [.int z1, .ref xo]) (by rw [ez1]; rfl) ?_
  refine lv_aload_n hx hb dL_law_708 rfl (lv_at hl 3 rfl) ?_
  refine lv_iload_n hx hb dL_law_709 rfl (lv_at hl 0 rfl) ?_
  refine lv_iconst (v := 2) hx hb dL_law_710 (by decide) ?_
  refine lv_iadd hx hb dL_law_711 ?_
  refine lv_topi (fun y_2 ey_2 => ?_)
  obtain rfl : y_2 = 2 := ey_2.trans (by decide)
  refine va_sld hx hb hX hbl hbA hS (inr_ok rfl) dL_law_712 ?_
  refine W.eq (g2 := F0 m 713 ls [.int z2, .int z1, .ref xo]) (by rw [ez2]; rfl) ?_
  have hPc := hP.sub (ws' := [(xo, .inr (11, [.ref xq1, .int 0, .ref xq3, .ref xq7, .ref xq12, .int 0, .int (-1), .ref xq14, .ref xq24, .ref xq34, .ref xq36, .ref xq38, .ref xq48, .ref xq51, .ref xq53, .ref xq55, .ref xq57, .ref xq59, .int 0])), (xq14, .inr (1, [.int 0, .int 0, .int 0, .ref xq16, .ref xq17, .ref xq18, .ref xq19]))]) [0, 1] rfl
  have hDc := hD.sub (ws' := [(xo, .inr (11, [.ref xq1, .int 0, .ref xq3, .ref xq7, .ref xq12, .int 0, .int (-1), .ref xq14, .ref xq24, .ref xq34, .ref xq36, .ref xq38, .ref xq48, .ref xq51, .ref xq53, .ref xq55, .ref xq57, .ref xq59, .int 0])), (xq14, .inr (1, [.int 0, .int 0, .int 0, .ref xq16, .ref xq17, .ref xq18, .ref xq19]))]) [0, 1] (by decide) rfl
  have hKc := hK.sub (tys' := []) [] rfl
  have hFc := va_free (wc := [(xo, .inr (11, [.ref xq1, .int 0, .ref xq3, .ref xq7, .ref xq12, .int 0, .int (-1), .ref xq14, .ref xq24, .ref xq34, .ref xq36, .ref xq38, .ref xq48, .ref xq51, .ref xq53, .ref xq55, .ref xq57, .ref xq59, .int 0])), (xq14, .inr (1, [.int 0, .int 0, .int 0, .ref xq16, .ref xq17, .ref xq18, .ref xq19]))]) hD hS hA [0, 1] rfl
  refine va_calli (va_runV (As := [.int z1, .int z2]) (rest := []) ⟨hx, hb, hml, hown, hq⟩ (c_SB_hush l dC dI _ xo xq1 xq3 xq7 xq12 xq14 xq24 xq34 xq36 xq38 xq48 xq51 xq53 xq55 xq57 xq59 xq16 xq17 xq18 xq19 z1 z2 ) (cwV 2 hq (gV qw_1020 qw_1021 qw_1022 qw_119 qw_1023) rfl rfl rfl (by decide +kernel) ⟨Nat.le_of_ble_eq_true rfl, Nat.le_of_ble_eq_true rfl⟩) ⟨fun a U g mk q => by obtain ⟨q0, q1, qP, qK, qD, qE⟩ := q; exact ⟨q0, q1, qP, va_K.moved (u := U) (U := U.calling g mk a) (Vm.Alike.refl U.vm) qK, qD, xE.same rfl qE⟩, va_recv hKc hPc (ci := 11) (q0 := 0) rfl rfl, fun U hU hW => ⟨rfl, by rw [hU], by rw [hU]; exact hPc, va_K.moved hW.alike hKc, hDc.weaken (fun _ _ _ _ => trivial), xE.warm hW hE⟩⟩ rfl rfl hl.1 rfl (lv_room (Nat.le_of_ble_eq_true rfl)) dL_law_713 ⟨Nat.le_of_ble_eq_true rfl, Nat.le_of_ble_eq_true rfl⟩) hS (fun q _ h => hFc q h) hFc (fun r_3 u t H1 locs ht hvm hw hB hz1 hk1 hS => ?_)
  have hP1 : va_P (dC, dI) classes [] H1 := vP_nil
  have hD1 : va_D (va_A [(xo, .inr (11, [.ref xq1, .int 0, .ref xq3, .ref xq7, .ref xq12, .int 0, .int (-1), .ref xq14, .ref xq24, .ref xq34, .ref xq36, .ref xq38, .ref xq48, .ref xq51, .ref xq53, .ref xq55, .ref xq57, .ref xq59, .int 0])), (xq14, .inr (1, [.int 0, .int 0, .int 0, .ref xq16, .ref xq17, .ref xq18, .ref xq19]))] H.size) [] := vD_nil
  obtain ⟨hP, hD⟩ := va_join (wr := [(mo, .inr (12, [.ref mq1, .int 0, .int 0, .ref mq3, .ref mq5, .ref mq7, .ref mq9, .ref mq11, .int 0, .int 0, .int 0, .int 0, .int 0, .int 0, .int 0, .ref mq13, .int 0, .ref mq15, .int 0, .ref mq17, .ref mq19, .int (-1), .int 0, .int 0, .int 0, .int 0, .int 0, .ref mq21, .int 0, .ref mq23, .ref mq25, .ref mq27, .int 0, .int 0, .int 0, .ref mq29, .ref mq31, .ref mq33, .long 0, .ref mq35, .ref mq37, .ref mq39, .ref mq41])), (mq19, .inl (mk20, 100, .inl (fun _ => 0)))]) (w1 := []) hP hD [0, 1] [2, 3] rfl rfl (by decide) (by decide) hk1 hFc hP1 hD1
  generalize H1 = H at hP hS ⊢
  have hP : va_P (dC, dI) classes [(mo, .inr (12, [.ref mq1, .int 0, .int 0, .ref mq3, .ref mq5, .ref mq7, .ref mq9, .ref mq11, .int 0, .int 0, .int 0, .int 0, .int 0, .int 0, .int 0, .ref mq13, .int 0, .ref mq15, .int 0, .ref mq17, .ref mq19, .int (-1), .int 0, .int 0, .int 0, .int 0, .int 0, .ref mq21, .int 0, .ref mq23, .ref mq25, .ref mq27, .int 0, .int 0, .int 0, .ref mq29, .ref mq31, .ref mq33, .long 0, .ref mq35, .ref mq37, .ref mq39, .ref mq41])), (mq19, .inl (mk20, 100, .inl (fun _ => 0)))] H := hP
  have hD : va_D A [(mo, .inr (12, [.ref mq1, .int 0, .int 0, .ref mq3, .ref mq5, .ref mq7, .ref mq9, .ref mq11, .int 0, .int 0, .int 0, .int 0, .int 0, .int 0, .int 0, .ref mq13, .int 0, .ref mq15, .int 0, .ref mq17, .ref mq19, .int (-1), .int 0, .int 0, .int 0, .int 0, .int 0, .ref mq21, .int 0, .ref mq23, .ref mq25, .ref mq27, .int 0, .int 0, .int 0, .ref mq29, .ref mq31, .ref mq33, .long 0, .ref mq35, .ref mq37, .ref mq39, .ref mq41])), (mq19, .inl (mk20, 100, .inl (fun _ => 0)))] := hD
  obtain rfl : r_3 = (-3) := hw
  refine lv_aload_n hx hb dL_law_716 rfl (lv_at hl 1 rfl) ?_
  refine lv_aload_n hx hb dL_law_717 rfl (lv_at hl 3 rfl) ?_
  refine lv_iload_n hx hb dL_law_718 rfl (lv_at hl 0 rfl) ?_
  refine lv_iconst (v := 1) hx hb dL_law_719 (by decide) ?_
  refine lv_iadd hx hb dL_law_720 ?_
  refine lv_topi (fun y_4 ey_4 => ?_)
  obtain rfl : y_4 = 1 := ey_4.trans (by decide)
  refine va_sld hx hb hX hbl hbA hS (inr_ok rfl) dL_law_721 ?_
  refine W.eq (g2 := F0 m 722 ls [.int z1, .ref mo, .int (-3)]) (by rw [ez1]; rfl) ?_
  refine lv_aload_n hx hb dL_law_722 rfl (lv_at hl 3 rfl) ?_
  refine lv_iload_n hx hb dL_law_723 rfl (lv_at hl 0 rfl) ?_
  refine lv_iconst (v := 2) hx hb dL_law_724 (by decide) ?_
  refine lv_iadd hx hb dL_law_725 ?_
  refine lv_topi (fun y_5 ey_5 => ?_)
  obtain rfl : y_5 = 2 := ey_5.trans (by decide)
  refine va_sld hx hb hX hbl hbA hS (inr_ok rfl) dL_law_726 ?_
  refine W.eq (g2 := F0 m 727 ls [.int z2, .int z1, .ref mo, .int (-3)]) (by rw [ez2]; rfl) ?_
  have hPc := hP.sub (ws' := [(mo, .inr (12, [.ref mq1, .int 0, .int 0, .ref mq3, .ref mq5, .ref mq7, .ref mq9, .ref mq11, .int 0, .int 0, .int 0, .int 0, .int 0, .int 0, .int 0, .ref mq13, .int 0, .ref mq15, .int 0, .ref mq17, .ref mq19, .int (-1), .int 0, .int 0, .int 0, .int 0, .int 0, .ref mq21, .int 0, .ref mq23, .ref mq25, .ref mq27, .int 0, .int 0, .int 0, .ref mq29, .ref mq31, .ref mq33, .long 0, .ref mq35, .ref mq37, .ref mq39, .ref mq41])), (mq19, .inl (mk20, 100, .inl (fun _ => 0)))]) [0, 1] rfl
  have hDc := hD.sub (ws' := [(mo, .inr (12, [.ref mq1, .int 0, .int 0, .ref mq3, .ref mq5, .ref mq7, .ref mq9, .ref mq11, .int 0, .int 0, .int 0, .int 0, .int 0, .int 0, .int 0, .ref mq13, .int 0, .ref mq15, .int 0, .ref mq17, .ref mq19, .int (-1), .int 0, .int 0, .int 0, .int 0, .int 0, .ref mq21, .int 0, .ref mq23, .ref mq25, .ref mq27, .int 0, .int 0, .int 0, .ref mq29, .ref mq31, .ref mq33, .long 0, .ref mq35, .ref mq37, .ref mq39, .ref mq41])), (mq19, .inl (mk20, 100, .inl (fun _ => 0)))]) [0, 1] (by decide) rfl
  have hKc := hK.sub (tys' := [(mk20, .int)]) [0] rfl
  have hFc := va_free (wc := [(mo, .inr (12, [.ref mq1, .int 0, .int 0, .ref mq3, .ref mq5, .ref mq7, .ref mq9, .ref mq11, .int 0, .int 0, .int 0, .int 0, .int 0, .int 0, .int 0, .ref mq13, .int 0, .ref mq15, .int 0, .ref mq17, .ref mq19, .int (-1), .int 0, .int 0, .int 0, .int 0, .int 0, .ref mq21, .int 0, .ref mq23, .ref mq25, .ref mq27, .int 0, .int 0, .int 0, .ref mq29, .ref mq31, .ref mq33, .long 0, .ref mq35, .ref mq37, .ref mq39, .ref mq41])), (mq19, .inl (mk20, 100, .inl (fun _ => 0)))]) hD hS hA [0, 1] rfl
  refine va_calli (va_runV (As := [.int z1, .int z2]) (rest := [.int (-3)]) ⟨hx, hb, hml, hown, hq⟩ (c_M_hush l dC dI _ mo mq1 mq3 mq5 mq7 mq9 mq11 mq13 mq15 mq17 mq19 mq21 mq23 mq25 mq27 mq29 mq31 mq33 mq35 mq37 mq39 mq41 mk20 z1 z2 ) (cwV 2 hq (gV qw_1681 qw_1682 qw_1683 qw_131 qw_1684) rfl rfl rfl (by decide +kernel) ⟨Nat.le_of_ble_eq_true rfl, Nat.le_of_ble_eq_true rfl⟩) ⟨fun a U g mk q => by obtain ⟨q0, q1, qP, qK, qD, qE⟩ := q; exact ⟨q0, q1, qP, va_K.moved (u := U) (U := U.calling g mk a) (Vm.Alike.refl U.vm) qK, qD, xE.same rfl qE⟩, va_recv hKc hPc (ci := 12) (q0 := 0) rfl rfl, fun U hU hW => ⟨rfl, by rw [hU], by rw [hU]; exact hPc, va_K.moved hW.alike hKc, hDc.weaken (fun _ _ _ _ => trivial), xE.warm hW hE⟩⟩ rfl rfl hl.1 rfl (lv_room (Nat.le_of_ble_eq_true rfl)) dL_law_727 ⟨Nat.le_of_ble_eq_true rfl, Nat.le_of_ble_eq_true rfl⟩) hS (fun q _ h => hFc q h) hFc (fun r_6 u t H1 locs ht hvm hw hB hz1 hk1 hS => ?_)
  have hP1 : va_P (dC, dI) classes [] H1 := vP_nil
  have hD1 : va_D (va_A [(mo, .inr (12, [.ref mq1, .int 0, .int 0, .ref mq3, .ref mq5, .ref mq7, .ref mq9, .ref mq11, .int 0, .int 0, .int 0, .int 0, .int 0, .int 0, .int 0, .ref mq13, .int 0, .ref mq15, .int 0, .ref mq17, .ref mq19, .int (-1), .int 0, .int 0, .int 0, .int 0, .int 0, .ref mq21, .int 0, .ref mq23, .ref mq25, .ref mq27, .int 0, .int 0, .int 0, .ref mq29, .ref mq31, .ref mq33, .long 0, .ref mq35, .ref mq37, .ref mq39, .ref mq41])), (mq19, .inl (mk20, 100, .inl (fun _ => 0)))] H.size) [] := vD_nil
  obtain ⟨hP, hD⟩ := va_join (wr := []) (w1 := []) hP hD [0, 1] [] rfl rfl (by decide) (by decide) hk1 hFc hP1 hD1
  generalize H1 = H at hP hS ⊢
  have hP : va_P (dC, dI) classes [] H := hP
  have hD : va_D A [] := hD
  obtain rfl : r_6 = (-3) := hw
  refine lv_icmp_eq (tgt := 1210) hx hb dL_law_730 (by decide) (fun _ => ?_) (fun c9 => absurd c9 (by decide))
  exact law_end C0 hAq hS (lv_sub hl [0, 1, 2, 3] rfl)
set_option maxHeartbeats 4000000 in
set_option maxRecDepth 100000 in
/-- rows, the first call -/
theorem law_21 {p : Program} {l : Launch} {e : Env} {s : State} {m : MethodId} {below : List Frame} {meth : Method} {c : Code} {A : Nat → Prop} {kA vA : Nat → Nat} {dC : Nat → ClassId} {dI : Nat → Nat → Nat} {b : Nat} {xs : Nat → Int32} {xo : Nat} {mo : Nat} {xq1 : Nat} {xq3 : Nat} {xq7 : Nat} {xq12 : Nat} {xq14 : Nat} {xq24 : Nat} {xq34 : Nat} {xq36 : Nat} {xq38 : Nat} {xq48 : Nat} {xq51 : Nat} {xq53 : Nat} {xq55 : Nat} {xq57 : Nat} {xq59 : Nat} {xq16 : Nat} {xq17 : Nat} {xq18 : Nat} {xq19 : Nat} {mq1 : Nat} {mq3 : Nat} {mq5 : Nat} {mq7 : Nat} {mq9 : Nat} {mq11 : Nat} {mq13 : Nat} {mq15 : Nat} {mq17 : Nat} {mq19 : Nat} {mq21 : Nat} {mq23 : Nat} {mq25 : Nat} {mq27 : Nat} {mq29 : Nat} {mq31 : Nat} {mq33 : Nat} {mq35 : Nat} {mq37 : Nat} {mq39 : Nat} {mq41 : Nat} {mk20 : ClassId} (C0 : lw_At p s m meth c b 6 xs) (hA : ∀ q : Nat, s.heap.size ≤ q → A q) (hAq : ∀ q : Nat, A q → s.heap.size ≤ q) (hE : xE s) (hT : xT kA vA A s s.heap) (hK : va_K (dC, dI) classes [(mk20, .int)] s) {H : Heap} {locs : List Loc} (hP : va_P (dC, dI) classes [(xo, .inr (11, [.ref xq1, .int 0, .ref xq3, .ref xq7, .ref xq12, .int 0, .int (-1), .ref xq14, .ref xq24, .ref xq34, .ref xq36, .ref xq38, .ref xq48, .ref xq51, .ref xq53, .ref xq55, .ref xq57, .ref xq59, .int 0])), (xq14, .inr (1, [.int 0, .int 0, .int 0, .ref xq16, .ref xq17, .ref xq18, .ref xq19])), (mo, .inr (12, [.ref mq1, .int 0, .int 0, .ref mq3, .ref mq5, .ref mq7, .ref mq9, .ref mq11, .int 0, .int 0, .int 0, .int 0, .int 0, .int 0, .int 0, .ref mq13, .int 0, .ref mq15, .int 0, .ref mq17, .ref mq19, .int (-1), .int 0, .int 0, .int 0, .int 0, .int 0, .ref mq21, .int 0, .ref mq23, .ref mq25, .ref mq27, .int 0, .int 0, .int 0, .ref mq29, .ref mq31, .ref mq33, .long 0, .ref mq35, .ref mq37, .ref mq39, .ref mq41])), (mq19, .inl (mk20, 100, .inl (fun _ => 0)))] H) (hD : va_D A [(xo, .inr (11, [.ref xq1, .int 0, .ref xq3, .ref xq7, .ref xq12, .int 0, .int (-1), .ref xq14, .ref xq24, .ref xq34, .ref xq36, .ref xq38, .ref xq48, .ref xq51, .ref xq53, .ref xq55, .ref xq57, .ref xq59, .int 0])), (xq14, .inr (1, [.int 0, .int 0, .int 0, .ref xq16, .ref xq17, .ref xq18, .ref xq19])), (mo, .inr (12, [.ref mq1, .int 0, .int 0, .ref mq3, .ref mq5, .ref mq7, .ref mq9, .ref mq11, .int 0, .int 0, .int 0, .int 0, .int 0, .int 0, .int 0, .ref mq13, .int 0, .ref mq15, .int 0, .ref mq17, .ref mq19, .int (-1), .int 0, .int 0, .int 0, .int 0, .int 0, .ref mq21, .int 0, .ref mq23, .ref mq25, .ref mq27, .int 0, .int 0, .int 0, .ref mq29, .ref mq31, .ref mq33, .long 0, .ref mq35, .ref mq37, .ref mq39, .ref mq41])), (mq19, .inl (mk20, 100, .inl (fun _ => 0)))]) (hS : va_S A s.heap H locs) {ls : Array Slot} (hl : lv_has ls 4 [(3, .int 0), (2, .ref mo), (1, .ref xo), (0, .ref b)]) : W p l e room_1 s m #[Value.ref b] below meth c H locs 152 8829 (lw_Z below #[Value.ref b] s) (F0 m 735 ls []) := by
  obtain ⟨hx, hb, hr, hml, hown, hts, hX, hbl, hlocks, hgv⟩ := id C0
  have hown : s.vm.findClass RL = some m.cls := hown
  have hq : ∀ w ∈ wsA, w.before _ s = true := fun w h => hts w (List.mem_filter.mp h).1
  have hbA : ¬ A b := fun h => Nat.not_le.mpr hbl (hAq b h)
  obtain ⟨z1, ez1⟩ : ∃ z : Int32, z = xs 1 := ⟨_, rfl⟩
  refine lv_aload_n hx hb dL_law_735 rfl (lv_at hl 2 rfl) ?_
  refine lv_aload_n hx hb dL_law_736 rfl (lv_at hl 3 rfl) ?_
  refine lv_iload_n hx hb dL_law_737 rfl (lv_at hl 0 rfl) ?_
  refine lv_iconst (v := 1) hx hb dL_law_738 (by decide) ?_
  refine lv_iadd hx hb dL_law_739 ?_
  refine lv_topi (fun y_1 ey_1 => ?_)
  obtain rfl : y_1 = 1 := ey_1.trans (by decide)
  refine va_sld hx hb hX hbl hbA hS (inr_ok rfl) dL_law_740 ?_
  refine W.eq (g2 := F0 m 741 ls [.int z1, .ref xo]) (by rw [ez1]; rfl) ?_
  have hPc := hP.sub (ws' := [(xo, .inr (11, [.ref xq1, .int 0, .ref xq3, .ref xq7, .ref xq12, .int 0, .int (-1), .ref xq14, .ref xq24, .ref xq34, .ref xq36, .ref xq38, .ref xq48, .ref xq51, .ref xq53, .ref xq55, .ref xq57, .ref xq59, .int 0])), (xq14, .inr (1, [.int 0, .int 0, .int 0, .ref xq16, .ref xq17, .ref xq18, .ref xq19]))]) [0, 1] rfl
  have hDc := hD.sub (ws' := [(xo, .inr (11, [.ref xq1, .int 0, .ref xq3, .ref xq7, .ref xq12, .int 0, .int (-1), .ref xq14, .ref xq24, .ref xq34, .ref xq36, .ref xq38, .ref xq48, .ref xq51, .ref xq53, .ref xq55, .ref xq57, .ref xq59, .int 0])), (xq14, .inr (1, [.int 0, .int 0, .int 0, .ref xq16, .ref xq17, .ref xq18, .ref xq19]))]) [0, 1] (by decide) rfl
  have hKc := hK.sub (tys' := []) [] rfl
  have hFc := va_free (wc := [(xo, .inr (11, [.ref xq1, .int 0, .ref xq3, .ref xq7, .ref xq12, .int 0, .int (-1), .ref xq14, .ref xq24, .ref xq34, .ref xq36, .ref xq38, .ref xq48, .ref xq51, .ref xq53, .ref xq55, .ref xq57, .ref xq59, .int 0])), (xq14, .inr (1, [.int 0, .int 0, .int 0, .ref xq16, .ref xq17, .ref xq18, .ref xq19]))]) hD hS hA [0, 1] rfl
  refine va_calli (va_runV (As := [.int z1]) (rest := []) ⟨hx, hb, hml, hown, hq⟩ (c_SB_rows l dC dI _ xo xq1 xq3 xq7 xq12 xq14 xq24 xq34 xq36 xq38 xq48 xq51 xq53 xq55 xq57 xq59 xq16 xq17 xq18 xq19 z1 ) (cwV 1 hq (gV qw_1024 qw_1025 qw_1026 qw_119 qw_1027) rfl rfl rfl (by decide +kernel) ⟨Nat.le_of_ble_eq_true rfl, Nat.le_of_ble_eq_true rfl⟩) ⟨fun a U g mk q => by obtain ⟨q0, q1, qP, qK, qD, qE⟩ := q; exact ⟨q0, q1, qP, va_K.moved (u := U) (U := U.calling g mk a) (Vm.Alike.refl U.vm) qK, qD, xE.same rfl qE⟩, va_recv hKc hPc (ci := 11) (q0 := 0) rfl rfl, fun U hU hW => ⟨rfl, by rw [hU], by rw [hU]; exact hPc, va_K.moved hW.alike hKc, hDc.weaken (fun _ _ _ _ => trivial), xE.warm hW hE⟩⟩ rfl rfl hl.1 rfl (lv_room (Nat.le_of_ble_eq_true rfl)) dL_law_741 ⟨Nat.le_of_ble_eq_true rfl, Nat.le_of_ble_eq_true rfl⟩) hS (fun q _ h => hFc q h) hFc (fun r_2 u t H1 locs ht hvm hw hB hz1 hk1 hS => ?_)
  have hP1 : va_P (dC, dI) classes [] H1 := vP_nil
  have hD1 : va_D (va_A [(xo, .inr (11, [.ref xq1, .int 0, .ref xq3, .ref xq7, .ref xq12, .int 0, .int (-1), .ref xq14, .ref xq24, .ref xq34, .ref xq36, .ref xq38, .ref xq48, .ref xq51, .ref xq53, .ref xq55, .ref xq57, .ref xq59, .int 0])), (xq14, .inr (1, [.int 0, .int 0, .int 0, .ref xq16, .ref xq17, .ref xq18, .ref xq19]))] H.size) [] := vD_nil
  obtain ⟨hP, hD⟩ := va_join (wr := [(mo, .inr (12, [.ref mq1, .int 0, .int 0, .ref mq3, .ref mq5, .ref mq7, .ref mq9, .ref mq11, .int 0, .int 0, .int 0, .int 0, .int 0, .int 0, .int 0, .ref mq13, .int 0, .ref mq15, .int 0, .ref mq17, .ref mq19, .int (-1), .int 0, .int 0, .int 0, .int 0, .int 0, .ref mq21, .int 0, .ref mq23, .ref mq25, .ref mq27, .int 0, .int 0, .int 0, .ref mq29, .ref mq31, .ref mq33, .long 0, .ref mq35, .ref mq37, .ref mq39, .ref mq41])), (mq19, .inl (mk20, 100, .inl (fun _ => 0)))]) (w1 := []) hP hD [0, 1] [2, 3] rfl rfl (by decide) (by decide) hk1 hFc hP1 hD1
  generalize H1 = H at hP hS ⊢
  have hP : va_P (dC, dI) classes [(mo, .inr (12, [.ref mq1, .int 0, .int 0, .ref mq3, .ref mq5, .ref mq7, .ref mq9, .ref mq11, .int 0, .int 0, .int 0, .int 0, .int 0, .int 0, .int 0, .ref mq13, .int 0, .ref mq15, .int 0, .ref mq17, .ref mq19, .int (-1), .int 0, .int 0, .int 0, .int 0, .int 0, .ref mq21, .int 0, .ref mq23, .ref mq25, .ref mq27, .int 0, .int 0, .int 0, .ref mq29, .ref mq31, .ref mq33, .long 0, .ref mq35, .ref mq37, .ref mq39, .ref mq41])), (mq19, .inl (mk20, 100, .inl (fun _ => 0)))] H := hP
  have hD : va_D A [(mo, .inr (12, [.ref mq1, .int 0, .int 0, .ref mq3, .ref mq5, .ref mq7, .ref mq9, .ref mq11, .int 0, .int 0, .int 0, .int 0, .int 0, .int 0, .int 0, .ref mq13, .int 0, .ref mq15, .int 0, .ref mq17, .ref mq19, .int (-1), .int 0, .int 0, .int 0, .int 0, .int 0, .ref mq21, .int 0, .ref mq23, .ref mq25, .ref mq27, .int 0, .int 0, .int 0, .ref mq29, .ref mq31, .ref mq33, .long 0, .ref mq35, .ref mq37, .ref mq39, .ref mq41])), (mq19, .inl (mk20, 100, .inl (fun _ => 0)))] := hD
  obtain rfl : r_2 = (-1) := hw
  refine lv_aload_n hx hb dL_law_744 rfl (lv_at hl 1 rfl) ?_
  refine lv_aload_n hx hb dL_law_745 rfl (lv_at hl 3 rfl) ?_
  refine lv_iload_n hx hb dL_law_746 rfl (lv_at hl 0 rfl) ?_
  refine lv_iconst (v := 1) hx hb dL_law_747 (by decide) ?_
  refine lv_iadd hx hb dL_law_748 ?_
  refine lv_topi (fun y_3 ey_3 => ?_)
  obtain rfl : y_3 = 1 := ey_3.trans (by decide)
  refine va_sld hx hb hX hbl hbA hS (inr_ok rfl) dL_law_749 ?_
  refine W.eq (g2 := F0 m 750 ls [.int z1, .ref mo, .int (-1)]) (by rw [ez1]; rfl) ?_
  have hPc := hP.sub (ws' := [(mo, .inr (12, [.ref mq1, .int 0, .int 0, .ref mq3, .ref mq5, .ref mq7, .ref mq9, .ref mq11, .int 0, .int 0, .int 0, .int 0, .int 0, .int 0, .int 0, .ref mq13, .int 0, .ref mq15, .int 0, .ref mq17, .ref mq19, .int (-1), .int 0, .int 0, .int 0, .int 0, .int 0, .ref mq21, .int 0, .ref mq23, .ref mq25, .ref mq27, .int 0, .int 0, .int 0, .ref mq29, .ref mq31, .ref mq33, .long 0, .ref mq35, .ref mq37, .ref mq39, .ref mq41])), (mq19, .inl (mk20, 100, .inl (fun _ => 0)))]) [0, 1] rfl
  have hDc := hD.sub (ws' := [(mo, .inr (12, [.ref mq1, .int 0, .int 0, .ref mq3, .ref mq5, .ref mq7, .ref mq9, .ref mq11, .int 0, .int 0, .int 0, .int 0, .int 0, .int 0, .int 0, .ref mq13, .int 0, .ref mq15, .int 0, .ref mq17, .ref mq19, .int (-1), .int 0, .int 0, .int 0, .int 0, .int 0, .ref mq21, .int 0, .ref mq23, .ref mq25, .ref mq27, .int 0, .int 0, .int 0, .ref mq29, .ref mq31, .ref mq33, .long 0, .ref mq35, .ref mq37, .ref mq39, .ref mq41])), (mq19, .inl (mk20, 100, .inl (fun _ => 0)))]) [0, 1] (by decide) rfl
  have hKc := hK.sub (tys' := [(mk20, .int)]) [0] rfl
  have hFc := va_free (wc := [(mo, .inr (12, [.ref mq1, .int 0, .int 0, .ref mq3, .ref mq5, .ref mq7, .ref mq9, .ref mq11, .int 0, .int 0, .int 0, .int 0, .int 0, .int 0, .int 0, .ref mq13, .int 0, .ref mq15, .int 0, .ref mq17, .ref mq19, .int (-1), .int 0, .int 0, .int 0, .int 0, .int 0, .ref mq21, .int 0, .ref mq23, .ref mq25, .ref mq27, .int 0, .int 0, .int 0, .ref mq29, .ref mq31, .ref mq33, .long 0, .ref mq35, .ref mq37, .ref mq39, .ref mq41])), (mq19, .inl (mk20, 100, .inl (fun _ => 0)))]) hD hS hA [0, 1] rfl
  refine va_calli (va_runV (As := [.int z1]) (rest := [.int (-1)]) ⟨hx, hb, hml, hown, hq⟩ (c_M_rows l dC dI _ mo mq1 mq3 mq5 mq7 mq9 mq11 mq13 mq15 mq17 mq19 mq21 mq23 mq25 mq27 mq29 mq31 mq33 mq35 mq37 mq39 mq41 mk20 z1 ) (cwV 1 hq (gV qw_1685 qw_1686 qw_1687 qw_131 qw_1688) rfl rfl rfl (by decide +kernel) ⟨Nat.le_of_ble_eq_true rfl, Nat.le_of_ble_eq_true rfl⟩) ⟨fun a U g mk q => by obtain ⟨q0, q1, qP, qK, qD, qE⟩ := q; exact ⟨q0, q1, qP, va_K.moved (u := U) (U := U.calling g mk a) (Vm.Alike.refl U.vm) qK, qD, xE.same rfl qE⟩, va_recv hKc hPc (ci := 12) (q0 := 0) rfl rfl, fun U hU hW => ⟨rfl, by rw [hU], by rw [hU]; exact hPc, va_K.moved hW.alike hKc, hDc.weaken (fun _ _ _ _ => trivial), xE.warm hW hE⟩⟩ rfl rfl hl.1 rfl (lv_room (Nat.le_of_ble_eq_true rfl)) dL_law_750 ⟨Nat.le_of_ble_eq_true rfl, Nat.le_of_ble_eq_true rfl⟩) hS (fun q _ h => hFc q h) hFc (fun r_4 u t H1 locs ht hvm hw hB hz1 hk1 hS => ?_)
  have hP1 : va_P (dC, dI) classes [] H1 := vP_nil
  have hD1 : va_D (va_A [(mo, .inr (12, [.ref mq1, .int 0, .int 0, .ref mq3, .ref mq5, .ref mq7, .ref mq9, .ref mq11, .int 0, .int 0, .int 0, .int 0, .int 0, .int 0, .int 0, .ref mq13, .int 0, .ref mq15, .int 0, .ref mq17, .ref mq19, .int (-1), .int 0, .int 0, .int 0, .int 0, .int 0, .ref mq21, .int 0, .ref mq23, .ref mq25, .ref mq27, .int 0, .int 0, .int 0, .ref mq29, .ref mq31, .ref mq33, .long 0, .ref mq35, .ref mq37, .ref mq39, .ref mq41])), (mq19, .inl (mk20, 100, .inl (fun _ => 0)))] H.size) [] := vD_nil
  obtain ⟨hP, hD⟩ := va_join (wr := []) (w1 := []) hP hD [0, 1] [] rfl rfl (by decide) (by decide) hk1 hFc hP1 hD1
  generalize H1 = H at hP hS ⊢
  have hP : va_P (dC, dI) classes [] H := hP
  have hD : va_D A [] := hD
  obtain rfl : r_4 = (-1) := hw
  refine lv_icmp_eq (tgt := 1210) hx hb dL_law_753 (by decide) (fun _ => ?_) (fun c9 => absurd c9 (by decide))
  exact law_end C0 hAq hS (lv_sub hl [0, 1, 2, 3] rfl)
set_option maxHeartbeats 4000000 in
set_option maxRecDepth 100000 in
/-- believed, the first call -/
theorem law_22 {p : Program} {l : Launch} {e : Env} {s : State} {m : MethodId} {below : List Frame} {meth : Method} {c : Code} {A : Nat → Prop} {kA vA : Nat → Nat} {dC : Nat → ClassId} {dI : Nat → Nat → Nat} {b : Nat} {xs : Nat → Int32} {xo : Nat} {mo : Nat} {xq1 : Nat} {xq3 : Nat} {xq7 : Nat} {xq12 : Nat} {xq14 : Nat} {xq24 : Nat} {xq34 : Nat} {xq36 : Nat} {xq38 : Nat} {xq48 : Nat} {xq51 : Nat} {xq53 : Nat} {xq55 : Nat} {xq57 : Nat} {xq59 : Nat} {xq16 : Nat} {xq17 : Nat} {xq18 : Nat} {xq19 : Nat} {mq1 : Nat} {mq3 : Nat} {mq5 : Nat} {mq7 : Nat} {mq9 : Nat} {mq11 : Nat} {mq13 : Nat} {mq15 : Nat} {mq17 : Nat} {mq19 : Nat} {mq21 : Nat} {mq23 : Nat} {mq25 : Nat} {mq27 : Nat} {mq29 : Nat} {mq31 : Nat} {mq33 : Nat} {mq35 : Nat} {mq37 : Nat} {mq39 : Nat} {mq41 : Nat} {mk20 : ClassId} (C0 : lw_At p s m meth c b 6 xs) (hA : ∀ q : Nat, s.heap.size ≤ q → A q) (hAq : ∀ q : Nat, A q → s.heap.size ≤ q) (hE : xE s) (hT : xT kA vA A s s.heap) (hK : va_K (dC, dI) classes [(mk20, .int)] s) {H : Heap} {locs : List Loc} (hP : va_P (dC, dI) classes [(xo, .inr (11, [.ref xq1, .int 0, .ref xq3, .ref xq7, .ref xq12, .int 0, .int (-1), .ref xq14, .ref xq24, .ref xq34, .ref xq36, .ref xq38, .ref xq48, .ref xq51, .ref xq53, .ref xq55, .ref xq57, .ref xq59, .int 0])), (xq14, .inr (1, [.int 0, .int 0, .int 0, .ref xq16, .ref xq17, .ref xq18, .ref xq19])), (mo, .inr (12, [.ref mq1, .int 0, .int 0, .ref mq3, .ref mq5, .ref mq7, .ref mq9, .ref mq11, .int 0, .int 0, .int 0, .int 0, .int 0, .int 0, .int 0, .ref mq13, .int 0, .ref mq15, .int 0, .ref mq17, .ref mq19, .int (-1), .int 0, .int 0, .int 0, .int 0, .int 0, .ref mq21, .int 0, .ref mq23, .ref mq25, .ref mq27, .int 0, .int 0, .int 0, .ref mq29, .ref mq31, .ref mq33, .long 0, .ref mq35, .ref mq37, .ref mq39, .ref mq41])), (mq19, .inl (mk20, 100, .inl (fun _ => 0)))] H) (hD : va_D A [(xo, .inr (11, [.ref xq1, .int 0, .ref xq3, .ref xq7, .ref xq12, .int 0, .int (-1), .ref xq14, .ref xq24, .ref xq34, .ref xq36, .ref xq38, .ref xq48, .ref xq51, .ref xq53, .ref xq55, .ref xq57, .ref xq59, .int 0])), (xq14, .inr (1, [.int 0, .int 0, .int 0, .ref xq16, .ref xq17, .ref xq18, .ref xq19])), (mo, .inr (12, [.ref mq1, .int 0, .int 0, .ref mq3, .ref mq5, .ref mq7, .ref mq9, .ref mq11, .int 0, .int 0, .int 0, .int 0, .int 0, .int 0, .int 0, .ref mq13, .int 0, .ref mq15, .int 0, .ref mq17, .ref mq19, .int (-1), .int 0, .int 0, .int 0, .int 0, .int 0, .ref mq21, .int 0, .ref mq23, .ref mq25, .ref mq27, .int 0, .int 0, .int 0, .ref mq29, .ref mq31, .ref mq33, .long 0, .ref mq35, .ref mq37, .ref mq39, .ref mq41])), (mq19, .inl (mk20, 100, .inl (fun _ => 0)))]) (hS : va_S A s.heap H locs) {ls : Array Slot} (hl : lv_has ls 4 [(3, .int 0), (2, .ref mo), (1, .ref xo), (0, .ref b)]) : W p l e room_1 s m #[Value.ref b] below meth c H locs 152 8829 (lw_Z below #[Value.ref b] s) (F0 m 758 ls []) := by
  obtain ⟨hx, hb, hr, hml, hown, hts, hX, hbl, hlocks, hgv⟩ := id C0
  have hown : s.vm.findClass RL = some m.cls := hown
  have hq : ∀ w ∈ wsA, w.before _ s = true := fun w h => hts w (List.mem_filter.mp h).1
  have hbA : ¬ A b := fun h => Nat.not_le.mpr hbl (hAq b h)
  obtain ⟨z1, ez1⟩ : ∃ z : Int32, z = xs 1 := ⟨_, rfl⟩
  refine lv_aload_n hx hb dL_law_758 rfl (lv_at hl 2 rfl) ?_
  refine lv_aload_n hx hb dL_law_759 rfl (lv_at hl 3 rfl) ?_
  refine lv_iload_n hx hb dL_law_760 rfl (lv_at hl 0 rfl) ?_
  refine lv_iconst (v := 1) hx hb dL_law_761 (by decide) ?_
  refine lv_iadd hx hb dL_law_762 ?_
  refine lv_topi (fun y_1 ey_1 => ?_)
  obtain rfl : y_1 = 1 := ey_1.trans (by decide)
  refine va_sld hx hb hX hbl hbA hS (inr_ok rfl) dL_law_763 ?_
  refine W.eq (g2 := F0 m 764 ls [.int z1, .ref xo]) (by rw [ez1]; rfl) ?_
  have hPc := hP.sub (ws' := [(xo, .inr (11, [.ref xq1, .int 0, .ref xq3, .ref xq7, .ref xq12, .int 0, .int (-1), .ref xq14, .ref xq24, .ref xq34, .ref xq36, .ref xq38, .ref xq48, .ref xq51, .ref xq53, .ref xq55, .ref xq57, .ref xq59, .int 0])), (xq14, .inr (1, [.int 0, .int 0, .int 0, .ref xq16, .ref xq17, .ref xq18, .ref xq19]))]) [0, 1] rfl
  have hDc := hD.sub (ws' := [(xo, .inr (11, [.ref xq1, .int 0, .ref xq3, .ref xq7, .ref xq12, .int 0, .int (-1), .ref xq14, .ref xq24, .ref xq34, .ref xq36, .ref xq38, .ref xq48, .ref xq51, .ref xq53, .ref xq55, .ref xq57, .ref xq59, .int 0])), (xq14, .inr (1, [.int 0, .int 0, .int 0, .ref xq16, .ref xq17, .ref xq18, .ref xq19]))]) [0, 1] (by decide) rfl
  have hKc := hK.sub (tys' := []) [] rfl
  have hFc := va_free (wc := [(xo, .inr (11, [.ref xq1, .int 0, .ref xq3, .ref xq7, .ref xq12, .int 0, .int (-1), .ref xq14, .ref xq24, .ref xq34, .ref xq36, .ref xq38, .ref xq48, .ref xq51, .ref xq53, .ref xq55, .ref xq57, .ref xq59, .int 0])), (xq14, .inr (1, [.int 0, .int 0, .int 0, .ref xq16, .ref xq17, .ref xq18, .ref xq19]))]) hD hS hA [0, 1] rfl
  refine va_calli (va_runV (As := [.int z1]) (rest := []) ⟨hx, hb, hml, hown, hq⟩ (c_SB_believed l dC dI _ xo xq1 xq3 xq7 xq12 xq14 xq24 xq34 xq36 xq38 xq48 xq51 xq53 xq55 xq57 xq59 xq16 xq17 xq18 xq19 z1 ) (cwV 1 hq (gV qw_1028 qw_1029 qw_1030 qw_119 qw_1031) rfl rfl rfl (by decide +kernel) ⟨Nat.le_of_ble_eq_true rfl, Nat.le_of_ble_eq_true rfl⟩) ⟨fun a U g mk q => by obtain ⟨q0, q1, qP, qK, qD, qE⟩ := q; exact ⟨q0, q1, qP, va_K.moved (u := U) (U := U.calling g mk a) (Vm.Alike.refl U.vm) qK, qD, xE.same rfl qE⟩, va_recv hKc hPc (ci := 11) (q0 := 0) rfl rfl, fun U hU hW => ⟨rfl, by rw [hU], by rw [hU]; exact hPc, va_K.moved hW.alike hKc, hDc.weaken (fun _ _ _ _ => trivial), xE.warm hW hE⟩⟩ rfl rfl hl.1 rfl (lv_room (Nat.le_of_ble_eq_true rfl)) dL_law_764 ⟨Nat.le_of_ble_eq_true rfl, Nat.le_of_ble_eq_true rfl⟩) hS (fun q _ h => hFc q h) hFc (fun r_2 u t H1 locs ht hvm hw hB hz1 hk1 hS => ?_)
  have hP1 : va_P (dC, dI) classes [] H1 := vP_nil
  have hD1 : va_D (va_A [(xo, .inr (11, [.ref xq1, .int 0, .ref xq3, .ref xq7, .ref xq12, .int 0, .int (-1), .ref xq14, .ref xq24, .ref xq34, .ref xq36, .ref xq38, .ref xq48, .ref xq51, .ref xq53, .ref xq55, .ref xq57, .ref xq59, .int 0])), (xq14, .inr (1, [.int 0, .int 0, .int 0, .ref xq16, .ref xq17, .ref xq18, .ref xq19]))] H.size) [] := vD_nil
  obtain ⟨hP, hD⟩ := va_join (wr := [(mo, .inr (12, [.ref mq1, .int 0, .int 0, .ref mq3, .ref mq5, .ref mq7, .ref mq9, .ref mq11, .int 0, .int 0, .int 0, .int 0, .int 0, .int 0, .int 0, .ref mq13, .int 0, .ref mq15, .int 0, .ref mq17, .ref mq19, .int (-1), .int 0, .int 0, .int 0, .int 0, .int 0, .ref mq21, .int 0, .ref mq23, .ref mq25, .ref mq27, .int 0, .int 0, .int 0, .ref mq29, .ref mq31, .ref mq33, .long 0, .ref mq35, .ref mq37, .ref mq39, .ref mq41])), (mq19, .inl (mk20, 100, .inl (fun _ => 0)))]) (w1 := []) hP hD [0, 1] [2, 3] rfl rfl (by decide) (by decide) hk1 hFc hP1 hD1
  generalize H1 = H at hP hS ⊢
  have hP : va_P (dC, dI) classes [(mo, .inr (12, [.ref mq1, .int 0, .int 0, .ref mq3, .ref mq5, .ref mq7, .ref mq9, .ref mq11, .int 0, .int 0, .int 0, .int 0, .int 0, .int 0, .int 0, .ref mq13, .int 0, .ref mq15, .int 0, .ref mq17, .ref mq19, .int (-1), .int 0, .int 0, .int 0, .int 0, .int 0, .ref mq21, .int 0, .ref mq23, .ref mq25, .ref mq27, .int 0, .int 0, .int 0, .ref mq29, .ref mq31, .ref mq33, .long 0, .ref mq35, .ref mq37, .ref mq39, .ref mq41])), (mq19, .inl (mk20, 100, .inl (fun _ => 0)))] H := hP
  have hD : va_D A [(mo, .inr (12, [.ref mq1, .int 0, .int 0, .ref mq3, .ref mq5, .ref mq7, .ref mq9, .ref mq11, .int 0, .int 0, .int 0, .int 0, .int 0, .int 0, .int 0, .ref mq13, .int 0, .ref mq15, .int 0, .ref mq17, .ref mq19, .int (-1), .int 0, .int 0, .int 0, .int 0, .int 0, .ref mq21, .int 0, .ref mq23, .ref mq25, .ref mq27, .int 0, .int 0, .int 0, .ref mq29, .ref mq31, .ref mq33, .long 0, .ref mq35, .ref mq37, .ref mq39, .ref mq41])), (mq19, .inl (mk20, 100, .inl (fun _ => 0)))] := hD
  obtain rfl : r_2 = (-1) := hw
  refine lv_aload_n hx hb dL_law_767 rfl (lv_at hl 1 rfl) ?_
  refine lv_aload_n hx hb dL_law_768 rfl (lv_at hl 3 rfl) ?_
  refine lv_iload_n hx hb dL_law_769 rfl (lv_at hl 0 rfl) ?_
  refine lv_iconst (v := 1) hx hb dL_law_770 (by decide) ?_
  refine lv_iadd hx hb dL_law_771 ?_
  refine lv_topi (fun y_3 ey_3 => ?_)
  obtain rfl : y_3 = 1 := ey_3.trans (by decide)
  refine va_sld hx hb hX hbl hbA hS (inr_ok rfl) dL_law_772 ?_
  refine W.eq (g2 := F0 m 773 ls [.int z1, .ref mo, .int (-1)]) (by rw [ez1]; rfl) ?_
  have hPc := hP.sub (ws' := [(mo, .inr (12, [.ref mq1, .int 0, .int 0, .ref mq3, .ref mq5, .ref mq7, .ref mq9, .ref mq11, .int 0, .int 0, .int 0, .int 0, .int 0, .int 0, .int 0, .ref mq13, .int 0, .ref mq15, .int 0, .ref mq17, .ref mq19, .int (-1), .int 0, .int 0, .int 0, .int 0, .int 0, .ref mq21, .int 0, .ref mq23, .ref mq25, .ref mq27, .int 0, .int 0, .int 0, .ref mq29, .ref mq31, .ref mq33, .long 0, .ref mq35, .ref mq37, .ref mq39, .ref mq41])), (mq19, .inl (mk20, 100, .inl (fun _ => 0)))]) [0, 1] rfl
  have hDc := hD.sub (ws' := [(mo, .inr (12, [.ref mq1, .int 0, .int 0, .ref mq3, .ref mq5, .ref mq7, .ref mq9, .ref mq11, .int 0, .int 0, .int 0, .int 0, .int 0, .int 0, .int 0, .ref mq13, .int 0, .ref mq15, .int 0, .ref mq17, .ref mq19, .int (-1), .int 0, .int 0, .int 0, .int 0, .int 0, .ref mq21, .int 0, .ref mq23, .ref mq25, .ref mq27, .int 0, .int 0, .int 0, .ref mq29, .ref mq31, .ref mq33, .long 0, .ref mq35, .ref mq37, .ref mq39, .ref mq41])), (mq19, .inl (mk20, 100, .inl (fun _ => 0)))]) [0, 1] (by decide) rfl
  have hKc := hK.sub (tys' := [(mk20, .int)]) [0] rfl
  have hFc := va_free (wc := [(mo, .inr (12, [.ref mq1, .int 0, .int 0, .ref mq3, .ref mq5, .ref mq7, .ref mq9, .ref mq11, .int 0, .int 0, .int 0, .int 0, .int 0, .int 0, .int 0, .ref mq13, .int 0, .ref mq15, .int 0, .ref mq17, .ref mq19, .int (-1), .int 0, .int 0, .int 0, .int 0, .int 0, .ref mq21, .int 0, .ref mq23, .ref mq25, .ref mq27, .int 0, .int 0, .int 0, .ref mq29, .ref mq31, .ref mq33, .long 0, .ref mq35, .ref mq37, .ref mq39, .ref mq41])), (mq19, .inl (mk20, 100, .inl (fun _ => 0)))]) hD hS hA [0, 1] rfl
  refine va_calli (va_runV (As := [.int z1]) (rest := [.int (-1)]) ⟨hx, hb, hml, hown, hq⟩ (c_M_believed l dC dI _ mo mq1 mq3 mq5 mq7 mq9 mq11 mq13 mq15 mq17 mq19 mq21 mq23 mq25 mq27 mq29 mq31 mq33 mq35 mq37 mq39 mq41 mk20 z1 ) (cwV 1 hq (gV qw_1701 qw_1702 qw_1703 qw_131 qw_1704) rfl rfl rfl (by decide +kernel) ⟨Nat.le_of_ble_eq_true rfl, Nat.le_of_ble_eq_true rfl⟩) ⟨fun a U g mk q => by obtain ⟨q0, q1, qP, qK, qD, qE⟩ := q; exact ⟨q0, q1, qP, va_K.moved (u := U) (U := U.calling g mk a) (Vm.Alike.refl U.vm) qK, qD, xE.same rfl qE⟩, va_recv hKc hPc (ci := 12) (q0 := 0) rfl rfl, fun U hU hW => ⟨rfl, by rw [hU], by rw [hU]; exact hPc, va_K.moved hW.alike hKc, hDc.weaken (fun _ _ _ _ => trivial), xE.warm hW hE⟩⟩ rfl rfl hl.1 rfl (lv_room (Nat.le_of_ble_eq_true rfl)) dL_law_773 ⟨Nat.le_of_ble_eq_true rfl, Nat.le_of_ble_eq_true rfl⟩) hS (fun q _ h => hFc q h) hFc (fun r_4 u t H1 locs ht hvm hw hB hz1 hk1 hS => ?_)
  have hP1 : va_P (dC, dI) classes [] H1 := vP_nil
  have hD1 : va_D (va_A [(mo, .inr (12, [.ref mq1, .int 0, .int 0, .ref mq3, .ref mq5, .ref mq7, .ref mq9, .ref mq11, .int 0, .int 0, .int 0, .int 0, .int 0, .int 0, .int 0, .ref mq13, .int 0, .ref mq15, .int 0, .ref mq17, .ref mq19, .int (-1), .int 0, .int 0, .int 0, .int 0, .int 0, .ref mq21, .int 0, .ref mq23, .ref mq25, .ref mq27, .int 0, .int 0, .int 0, .ref mq29, .ref mq31, .ref mq33, .long 0, .ref mq35, .ref mq37, .ref mq39, .ref mq41])), (mq19, .inl (mk20, 100, .inl (fun _ => 0)))] H.size) [] := vD_nil
  obtain ⟨hP, hD⟩ := va_join (wr := []) (w1 := []) hP hD [0, 1] [] rfl rfl (by decide) (by decide) hk1 hFc hP1 hD1
  generalize H1 = H at hP hS ⊢
  have hP : va_P (dC, dI) classes [] H := hP
  have hD : va_D A [] := hD
  obtain rfl : r_4 = (-1) := hw
  refine lv_icmp_eq (tgt := 1210) hx hb dL_law_776 (by decide) (fun _ => ?_) (fun c9 => absurd c9 (by decide))
  exact law_end C0 hAq hS (lv_sub hl [0, 1, 2, 3] rfl)
set_option maxHeartbeats 4000000 in
set_option maxRecDepth 100000 in
/-- dropped, the first call -/
theorem law_23 {p : Program} {l : Launch} {e : Env} {s : State} {m : MethodId} {below : List Frame} {meth : Method} {c : Code} {A : Nat → Prop} {kA vA : Nat → Nat} {dC : Nat → ClassId} {dI : Nat → Nat → Nat} {b : Nat} {xs : Nat → Int32} {xo : Nat} {mo : Nat} {xq1 : Nat} {xq3 : Nat} {xq7 : Nat} {xq12 : Nat} {xq14 : Nat} {xq24 : Nat} {xq34 : Nat} {xq36 : Nat} {xq38 : Nat} {xq48 : Nat} {xq51 : Nat} {xq53 : Nat} {xq55 : Nat} {xq57 : Nat} {xq59 : Nat} {xq16 : Nat} {xq17 : Nat} {xq18 : Nat} {xq19 : Nat} {mq1 : Nat} {mq3 : Nat} {mq5 : Nat} {mq7 : Nat} {mq9 : Nat} {mq11 : Nat} {mq13 : Nat} {mq15 : Nat} {mq17 : Nat} {mq19 : Nat} {mq21 : Nat} {mq23 : Nat} {mq25 : Nat} {mq27 : Nat} {mq29 : Nat} {mq31 : Nat} {mq33 : Nat} {mq35 : Nat} {mq37 : Nat} {mq39 : Nat} {mq41 : Nat} {mk20 : ClassId} (C0 : lw_At p s m meth c b 6 xs) (hA : ∀ q : Nat, s.heap.size ≤ q → A q) (hAq : ∀ q : Nat, A q → s.heap.size ≤ q) (hE : xE s) (hT : xT kA vA A s s.heap) (hK : va_K (dC, dI) classes [(mk20, .int)] s) {H : Heap} {locs : List Loc} (hP : va_P (dC, dI) classes [(xo, .inr (11, [.ref xq1, .int 0, .ref xq3, .ref xq7, .ref xq12, .int 0, .int (-1), .ref xq14, .ref xq24, .ref xq34, .ref xq36, .ref xq38, .ref xq48, .ref xq51, .ref xq53, .ref xq55, .ref xq57, .ref xq59, .int 0])), (xq14, .inr (1, [.int 0, .int 0, .int 0, .ref xq16, .ref xq17, .ref xq18, .ref xq19])), (mo, .inr (12, [.ref mq1, .int 0, .int 0, .ref mq3, .ref mq5, .ref mq7, .ref mq9, .ref mq11, .int 0, .int 0, .int 0, .int 0, .int 0, .int 0, .int 0, .ref mq13, .int 0, .ref mq15, .int 0, .ref mq17, .ref mq19, .int (-1), .int 0, .int 0, .int 0, .int 0, .int 0, .ref mq21, .int 0, .ref mq23, .ref mq25, .ref mq27, .int 0, .int 0, .int 0, .ref mq29, .ref mq31, .ref mq33, .long 0, .ref mq35, .ref mq37, .ref mq39, .ref mq41])), (mq19, .inl (mk20, 100, .inl (fun _ => 0)))] H) (hD : va_D A [(xo, .inr (11, [.ref xq1, .int 0, .ref xq3, .ref xq7, .ref xq12, .int 0, .int (-1), .ref xq14, .ref xq24, .ref xq34, .ref xq36, .ref xq38, .ref xq48, .ref xq51, .ref xq53, .ref xq55, .ref xq57, .ref xq59, .int 0])), (xq14, .inr (1, [.int 0, .int 0, .int 0, .ref xq16, .ref xq17, .ref xq18, .ref xq19])), (mo, .inr (12, [.ref mq1, .int 0, .int 0, .ref mq3, .ref mq5, .ref mq7, .ref mq9, .ref mq11, .int 0, .int 0, .int 0, .int 0, .int 0, .int 0, .int 0, .ref mq13, .int 0, .ref mq15, .int 0, .ref mq17, .ref mq19, .int (-1), .int 0, .int 0, .int 0, .int 0, .int 0, .ref mq21, .int 0, .ref mq23, .ref mq25, .ref mq27, .int 0, .int 0, .int 0, .ref mq29, .ref mq31, .ref mq33, .long 0, .ref mq35, .ref mq37, .ref mq39, .ref mq41])), (mq19, .inl (mk20, 100, .inl (fun _ => 0)))]) (hS : va_S A s.heap H locs) {ls : Array Slot} (hl : lv_has ls 4 [(3, .int 0), (2, .ref mo), (1, .ref xo), (0, .ref b)]) : W p l e room_1 s m #[Value.ref b] below meth c H locs 152 8829 (lw_Z below #[Value.ref b] s) (F0 m 781 ls []) := by
  obtain ⟨hx, hb, hr, hml, hown, hts, hX, hbl, hlocks, hgv⟩ := id C0
  have hown : s.vm.findClass RL = some m.cls := hown
  have hq : ∀ w ∈ wsA, w.before _ s = true := fun w h => hts w (List.mem_filter.mp h).1
  have hbA : ¬ A b := fun h => Nat.not_le.mpr hbl (hAq b h)
  obtain ⟨z1, ez1⟩ : ∃ z : Int32, z = xs 1 := ⟨_, rfl⟩
  refine lv_aload_n hx hb dL_law_781 rfl (lv_at hl 2 rfl) ?_
  refine lv_aload_n hx hb dL_law_782 rfl (lv_at hl 3 rfl) ?_
  refine lv_iload_n hx hb dL_law_783 rfl (lv_at hl 0 rfl) ?_
  refine lv_iconst (v := 1) hx hb dL_law_784 (by decide) ?_
  refine lv_iadd hx hb dL_law_785 ?_
  refine lv_topi (fun y_1 ey_1 => ?_)
  obtain rfl : y_1 = 1 := ey_1.trans (by decide)
  refine va_sld hx hb hX hbl hbA hS (inr_ok rfl) dL_law_786 ?_
  refine W.eq (g2 := F0 m 787 ls [.int z1, .ref xo]) (by rw [ez1]; rfl) ?_
  have hPc := hP.sub (ws' := [(xo, .inr (11, [.ref xq1, .int 0, .ref xq3, .ref xq7, .ref xq12, .int 0, .int (-1), .ref xq14, .ref xq24, .ref xq34, .ref xq36, .ref xq38, .ref xq48, .ref xq51, .ref xq53, .ref xq55, .ref xq57, .ref xq59, .int 0])), (xq14, .inr (1, [.int 0, .int 0, .int 0, .ref xq16, .ref xq17, .ref xq18, .ref xq19]))]) [0, 1] rfl
  have hDc := hD.sub (ws' := [(xo, .inr (11, [.ref xq1, .int 0, .ref xq3, .ref xq7, .ref xq12, .int 0, .int (-1), .ref xq14, .ref xq24, .ref xq34, .ref xq36, .ref xq38, .ref xq48, .ref xq51, .ref xq53, .ref xq55, .ref xq57, .ref xq59, .int 0])), (xq14, .inr (1, [.int 0, .int 0, .int 0, .ref xq16, .ref xq17, .ref xq18, .ref xq19]))]) [0, 1] (by decide) rfl
  have hKc := hK.sub (tys' := []) [] rfl
  have hFc := va_free (wc := [(xo, .inr (11, [.ref xq1, .int 0, .ref xq3, .ref xq7, .ref xq12, .int 0, .int (-1), .ref xq14, .ref xq24, .ref xq34, .ref xq36, .ref xq38, .ref xq48, .ref xq51, .ref xq53, .ref xq55, .ref xq57, .ref xq59, .int 0])), (xq14, .inr (1, [.int 0, .int 0, .int 0, .ref xq16, .ref xq17, .ref xq18, .ref xq19]))]) hD hS hA [0, 1] rfl
  refine va_calli (va_runV (As := [.int z1]) (rest := []) ⟨hx, hb, hml, hown, hq⟩ (c_SB_dropped l dC dI _ xo xq1 xq3 xq7 xq12 xq14 xq24 xq34 xq36 xq38 xq48 xq51 xq53 xq55 xq57 xq59 xq16 xq17 xq18 xq19 z1 ) (cwV 1 hq (gV qw_1035 qw_1036 qw_1037 qw_119 qw_1038) rfl rfl rfl (by decide +kernel) ⟨Nat.le_of_ble_eq_true rfl, Nat.le_of_ble_eq_true rfl⟩) ⟨fun a U g mk q => by obtain ⟨q0, q1, qP, qK, qD, qE⟩ := q; exact ⟨q0, q1, qP, va_K.moved (u := U) (U := U.calling g mk a) (Vm.Alike.refl U.vm) qK, qD, xE.same rfl qE⟩, va_recv hKc hPc (ci := 11) (q0 := 0) rfl rfl, fun U hU hW => ⟨rfl, by rw [hU], by rw [hU]; exact hPc, va_K.moved hW.alike hKc, hDc.weaken (fun _ _ _ _ => trivial), xE.warm hW hE⟩⟩ rfl rfl hl.1 rfl (lv_room (Nat.le_of_ble_eq_true rfl)) dL_law_787 ⟨Nat.le_of_ble_eq_true rfl, Nat.le_of_ble_eq_true rfl⟩) hS (fun q _ h => hFc q h) hFc (fun r_2 u t H1 locs ht hvm hw hB hz1 hk1 hS => ?_)
  have hP1 : va_P (dC, dI) classes [] H1 := vP_nil
  have hD1 : va_D (va_A [(xo, .inr (11, [.ref xq1, .int 0, .ref xq3, .ref xq7, .ref xq12, .int 0, .int (-1), .ref xq14, .ref xq24, .ref xq34, .ref xq36, .ref xq38, .ref xq48, .ref xq51, .ref xq53, .ref xq55, .ref xq57, .ref xq59, .int 0])), (xq14, .inr (1, [.int 0, .int 0, .int 0, .ref xq16, .ref xq17, .ref xq18, .ref xq19]))] H.size) [] := vD_nil
  obtain ⟨hP, hD⟩ := va_join (wr := [(mo, .inr (12, [.ref mq1, .int 0, .int 0, .ref mq3, .ref mq5, .ref mq7, .ref mq9, .ref mq11, .int 0, .int 0, .int 0, .int 0, .int 0, .int 0, .int 0, .ref mq13, .int 0, .ref mq15, .int 0, .ref mq17, .ref mq19, .int (-1), .int 0, .int 0, .int 0, .int 0, .int 0, .ref mq21, .int 0, .ref mq23, .ref mq25, .ref mq27, .int 0, .int 0, .int 0, .ref mq29, .ref mq31, .ref mq33, .long 0, .ref mq35, .ref mq37, .ref mq39, .ref mq41])), (mq19, .inl (mk20, 100, .inl (fun _ => 0)))]) (w1 := []) hP hD [0, 1] [2, 3] rfl rfl (by decide) (by decide) hk1 hFc hP1 hD1
  generalize H1 = H at hP hS ⊢
  have hP : va_P (dC, dI) classes [(mo, .inr (12, [.ref mq1, .int 0, .int 0, .ref mq3, .ref mq5, .ref mq7, .ref mq9, .ref mq11, .int 0, .int 0, .int 0, .int 0, .int 0, .int 0, .int 0, .ref mq13, .int 0, .ref mq15, .int 0, .ref mq17, .ref mq19, .int (-1), .int 0, .int 0, .int 0, .int 0, .int 0, .ref mq21, .int 0, .ref mq23, .ref mq25, .ref mq27, .int 0, .int 0, .int 0, .ref mq29, .ref mq31, .ref mq33, .long 0, .ref mq35, .ref mq37, .ref mq39, .ref mq41])), (mq19, .inl (mk20, 100, .inl (fun _ => 0)))] H := hP
  have hD : va_D A [(mo, .inr (12, [.ref mq1, .int 0, .int 0, .ref mq3, .ref mq5, .ref mq7, .ref mq9, .ref mq11, .int 0, .int 0, .int 0, .int 0, .int 0, .int 0, .int 0, .ref mq13, .int 0, .ref mq15, .int 0, .ref mq17, .ref mq19, .int (-1), .int 0, .int 0, .int 0, .int 0, .int 0, .ref mq21, .int 0, .ref mq23, .ref mq25, .ref mq27, .int 0, .int 0, .int 0, .ref mq29, .ref mq31, .ref mq33, .long 0, .ref mq35, .ref mq37, .ref mq39, .ref mq41])), (mq19, .inl (mk20, 100, .inl (fun _ => 0)))] := hD
  obtain rfl : r_2 = (-1) := hw
  refine lv_aload_n hx hb dL_law_790 rfl (lv_at hl 1 rfl) ?_
  refine lv_aload_n hx hb dL_law_791 rfl (lv_at hl 3 rfl) ?_
  refine lv_iload_n hx hb dL_law_792 rfl (lv_at hl 0 rfl) ?_
  refine lv_iconst (v := 1) hx hb dL_law_793 (by decide) ?_
  refine lv_iadd hx hb dL_law_794 ?_
  refine lv_topi (fun y_3 ey_3 => ?_)
  obtain rfl : y_3 = 1 := ey_3.trans (by decide)
  refine va_sld hx hb hX hbl hbA hS (inr_ok rfl) dL_law_795 ?_
  refine W.eq (g2 := F0 m 796 ls [.int z1, .ref mo, .int (-1)]) (by rw [ez1]; rfl) ?_
  have hPc := hP.sub (ws' := [(mo, .inr (12, [.ref mq1, .int 0, .int 0, .ref mq3, .ref mq5, .ref mq7, .ref mq9, .ref mq11, .int 0, .int 0, .int 0, .int 0, .int 0, .int 0, .int 0, .ref mq13, .int 0, .ref mq15, .int 0, .ref mq17, .ref mq19, .int (-1), .int 0, .int 0, .int 0, .int 0, .int 0, .ref mq21, .int 0, .ref mq23, .ref mq25, .ref mq27, .int 0, .int 0, .int 0, .ref mq29, .ref mq31, .ref mq33, .long 0, .ref mq35, .ref mq37, .ref mq39, .ref mq41])), (mq19, .inl (mk20, 100, .inl (fun _ => 0)))]) [0, 1] rfl
  have hDc := hD.sub (ws' := [(mo, .inr (12, [.ref mq1, .int 0, .int 0, .ref mq3, .ref mq5, .ref mq7, .ref mq9, .ref mq11, .int 0, .int 0, .int 0, .int 0, .int 0, .int 0, .int 0, .ref mq13, .int 0, .ref mq15, .int 0, .ref mq17, .ref mq19, .int (-1), .int 0, .int 0, .int 0, .int 0, .int 0, .ref mq21, .int 0, .ref mq23, .ref mq25, .ref mq27, .int 0, .int 0, .int 0, .ref mq29, .ref mq31, .ref mq33, .long 0, .ref mq35, .ref mq37, .ref mq39, .ref mq41])), (mq19, .inl (mk20, 100, .inl (fun _ => 0)))]) [0, 1] (by decide) rfl
  have hKc := hK.sub (tys' := [(mk20, .int)]) [0] rfl
  have hFc := va_free (wc := [(mo, .inr (12, [.ref mq1, .int 0, .int 0, .ref mq3, .ref mq5, .ref mq7, .ref mq9, .ref mq11, .int 0, .int 0, .int 0, .int 0, .int 0, .int 0, .int 0, .ref mq13, .int 0, .ref mq15, .int 0, .ref mq17, .ref mq19, .int (-1), .int 0, .int 0, .int 0, .int 0, .int 0, .ref mq21, .int 0, .ref mq23, .ref mq25, .ref mq27, .int 0, .int 0, .int 0, .ref mq29, .ref mq31, .ref mq33, .long 0, .ref mq35, .ref mq37, .ref mq39, .ref mq41])), (mq19, .inl (mk20, 100, .inl (fun _ => 0)))]) hD hS hA [0, 1] rfl
  refine va_calli (va_runV (As := [.int z1]) (rest := [.int (-1)]) ⟨hx, hb, hml, hown, hq⟩ (c_M_dropped l dC dI _ mo mq1 mq3 mq5 mq7 mq9 mq11 mq13 mq15 mq17 mq19 mq21 mq23 mq25 mq27 mq29 mq31 mq33 mq35 mq37 mq39 mq41 mk20 z1 ) (cwV 1 hq (gV qw_1705 qw_1706 qw_1707 qw_131 qw_1708) rfl rfl rfl (by decide +kernel) ⟨Nat.le_of_ble_eq_true rfl, Nat.le_of_ble_eq_true rfl⟩) ⟨fun a U g mk q => by obtain ⟨q0, q1, qP, qK, qD, qE⟩ := q; exact ⟨q0, q1, qP, va_K.moved (u := U) (U := U.calling g mk a) (Vm.Alike.refl U.vm) qK, qD, xE.same rfl qE⟩, va_recv hKc hPc (ci := 12) (q0 := 0) rfl rfl, fun U hU hW => ⟨rfl, by rw [hU], by rw [hU]; exact hPc, va_K.moved hW.alike hKc, hDc.weaken (fun _ _ _ _ => trivial), xE.warm hW hE⟩⟩ rfl rfl hl.1 rfl (lv_room (Nat.le_of_ble_eq_true rfl)) dL_law_796 ⟨Nat.le_of_ble_eq_true rfl, Nat.le_of_ble_eq_true rfl⟩) hS (fun q _ h => hFc q h) hFc (fun r_4 u t H1 locs ht hvm hw hB hz1 hk1 hS => ?_)
  have hP1 : va_P (dC, dI) classes [] H1 := vP_nil
  have hD1 : va_D (va_A [(mo, .inr (12, [.ref mq1, .int 0, .int 0, .ref mq3, .ref mq5, .ref mq7, .ref mq9, .ref mq11, .int 0, .int 0, .int 0, .int 0, .int 0, .int 0, .int 0, .ref mq13, .int 0, .ref mq15, .int 0, .ref mq17, .ref mq19, .int (-1), .int 0, .int 0, .int 0, .int 0, .int 0, .ref mq21, .int 0, .ref mq23, .ref mq25, .ref mq27, .int 0, .int 0, .int 0, .ref mq29, .ref mq31, .ref mq33, .long 0, .ref mq35, .ref mq37, .ref mq39, .ref mq41])), (mq19, .inl (mk20, 100, .inl (fun _ => 0)))] H.size) [] := vD_nil
  obtain ⟨hP, hD⟩ := va_join (wr := []) (w1 := []) hP hD [0, 1] [] rfl rfl (by decide) (by decide) hk1 hFc hP1 hD1
  generalize H1 = H at hP hS ⊢
  have hP : va_P (dC, dI) classes [] H := hP
  have hD : va_D A [] := hD
  obtain rfl : r_4 = (-1) := hw
  refine lv_icmp_eq (tgt := 1210) hx hb dL_law_799 (by decide) (fun _ => ?_) (fun c9 => absurd c9 (by decide))
  exact law_end C0 hAq hS (lv_sub hl [0, 1, 2, 3] rfl)
set_option maxHeartbeats 4000000 in
set_option maxRecDepth 100000 in
/-- leftOut, the first call -/
theorem law_24 {p : Program} {l : Launch} {e : Env} {s : State} {m : MethodId} {below : List Frame} {meth : Method} {c : Code} {A : Nat → Prop} {kA vA : Nat → Nat} {dC : Nat → ClassId} {dI : Nat → Nat → Nat} {b : Nat} {xs : Nat → Int32} {xo : Nat} {mo : Nat} {xq1 : Nat} {xq3 : Nat} {xq7 : Nat} {xq12 : Nat} {xq14 : Nat} {xq24 : Nat} {xq34 : Nat} {xq36 : Nat} {xq38 : Nat} {xq48 : Nat} {xq51 : Nat} {xq53 : Nat} {xq55 : Nat} {xq57 : Nat} {xq59 : Nat} {xq16 : Nat} {xq17 : Nat} {xq18 : Nat} {xq19 : Nat} {mq1 : Nat} {mq3 : Nat} {mq5 : Nat} {mq7 : Nat} {mq9 : Nat} {mq11 : Nat} {mq13 : Nat} {mq15 : Nat} {mq17 : Nat} {mq19 : Nat} {mq21 : Nat} {mq23 : Nat} {mq25 : Nat} {mq27 : Nat} {mq29 : Nat} {mq31 : Nat} {mq33 : Nat} {mq35 : Nat} {mq37 : Nat} {mq39 : Nat} {mq41 : Nat} {mk20 : ClassId} (C0 : lw_At p s m meth c b 6 xs) (hA : ∀ q : Nat, s.heap.size ≤ q → A q) (hAq : ∀ q : Nat, A q → s.heap.size ≤ q) (hE : xE s) (hT : xT kA vA A s s.heap) (hK : va_K (dC, dI) classes [(mk20, .int)] s) {H : Heap} {locs : List Loc} (hP : va_P (dC, dI) classes [(xo, .inr (11, [.ref xq1, .int 0, .ref xq3, .ref xq7, .ref xq12, .int 0, .int (-1), .ref xq14, .ref xq24, .ref xq34, .ref xq36, .ref xq38, .ref xq48, .ref xq51, .ref xq53, .ref xq55, .ref xq57, .ref xq59, .int 0])), (xq14, .inr (1, [.int 0, .int 0, .int 0, .ref xq16, .ref xq17, .ref xq18, .ref xq19])), (mo, .inr (12, [.ref mq1, .int 0, .int 0, .ref mq3, .ref mq5, .ref mq7, .ref mq9, .ref mq11, .int 0, .int 0, .int 0, .int 0, .int 0, .int 0, .int 0, .ref mq13, .int 0, .ref mq15, .int 0, .ref mq17, .ref mq19, .int (-1), .int 0, .int 0, .int 0, .int 0, .int 0, .ref mq21, .int 0, .ref mq23, .ref mq25, .ref mq27, .int 0, .int 0, .int 0, .ref mq29, .ref mq31, .ref mq33, .long 0, .ref mq35, .ref mq37, .ref mq39, .ref mq41])), (mq19, .inl (mk20, 100, .inl (fun _ => 0)))] H) (hD : va_D A [(xo, .inr (11, [.ref xq1, .int 0, .ref xq3, .ref xq7, .ref xq12, .int 0, .int (-1), .ref xq14, .ref xq24, .ref xq34, .ref xq36, .ref xq38, .ref xq48, .ref xq51, .ref xq53, .ref xq55, .ref xq57, .ref xq59, .int 0])), (xq14, .inr (1, [.int 0, .int 0, .int 0, .ref xq16, .ref xq17, .ref xq18, .ref xq19])), (mo, .inr (12, [.ref mq1, .int 0, .int 0, .ref mq3, .ref mq5, .ref mq7, .ref mq9, .ref mq11, .int 0, .int 0, .int 0, .int 0, .int 0, .int 0, .int 0, .ref mq13, .int 0, .ref mq15, .int 0, .ref mq17, .ref mq19, .int (-1), .int 0, .int 0, .int 0, .int 0, .int 0, .ref mq21, .int 0, .ref mq23, .ref mq25, .ref mq27, .int 0, .int 0, .int 0, .ref mq29, .ref mq31, .ref mq33, .long 0, .ref mq35, .ref mq37, .ref mq39, .ref mq41])), (mq19, .inl (mk20, 100, .inl (fun _ => 0)))]) (hS : va_S A s.heap H locs) {ls : Array Slot} (hl : lv_has ls 4 [(3, .int 0), (2, .ref mo), (1, .ref xo), (0, .ref b)]) : W p l e room_1 s m #[Value.ref b] below meth c H locs 152 8829 (lw_Z below #[Value.ref b] s) (F0 m 804 ls []) := by
  obtain ⟨hx, hb, hr, hml, hown, hts, hX, hbl, hlocks, hgv⟩ := id C0
  have hown : s.vm.findClass RL = some m.cls := hown
  have hq : ∀ w ∈ wsA, w.before _ s = true := fun w h => hts w (List.mem_filter.mp h).1
  have hbA : ¬ A b := fun h => Nat.not_le.mpr hbl (hAq b h)
  obtain ⟨z1, ez1⟩ : ∃ z : Int32, z = xs 1 := ⟨_, rfl⟩
  obtain ⟨z2, ez2⟩ : ∃ z : Int32, z = xs 2 := ⟨_, rfl⟩
  refine lv_aload_n hx hb dL_law_804 rfl (lv_at hl 2 rfl) ?_
  refine lv_aload_n hx hb dL_law_805 rfl (lv_at hl 3 rfl) ?_
  refine lv_iload_n hx hb dL_law_806 rfl (lv_at hl 0 rfl) ?_
  refine lv_iconst (v := 1) hx hb dL_law_807 (by decide) ?_
  refine lv_iadd hx hb dL_law_808 ?_
  refine lv_topi (fun y_1 ey_1 => ?_)
  obtain rfl : y_1 = 1 := ey_1.trans (by decide)
  refine va_sld hx hb hX hbl hbA hS (inr_ok rfl) dL_law_809 ?_
  refine W.eq (g2 := F0 m 810 ls [.int z1, .ref xo]) (by rw [ez1]; rfl) ?_
  refine lv_aload_n hx hb dL_law_810 rfl (lv_at hl 3 rfl) ?_
  refine lv_iload_n hx hb dL_law_811 rfl (lv_at hl 0 rfl) ?_
  refine lv_iconst (v := 2) hx hb dL_law_812 (by decide) ?_
  refine lv_iadd hx hb dL_law_813 ?_
  refine lv_topi (fun y_2 ey_2 => ?_)
  obtain rfl : y_2 = 2 := ey_2.trans (by decide)
  refine va_sld hx hb hX hbl hbA hS (inr_ok rfl) dL_law_814 ?_
  refine W.eq (g2 := F0 m 815 ls [.int z2, .int z1, .ref xo]) (by rw [ez2]; rfl) ?_
  have hPc := hP.sub (ws' := [(xo, .inr (11, [.ref xq1, .int 0, .ref xq3, .ref xq7, .ref xq12, .int 0, .int (-1), .ref xq14, .ref xq24, .ref xq34, .ref xq36, .ref xq38, .ref xq48, .ref xq51, .ref xq53, .ref xq55, .ref xq57, .ref xq59, .int 0])), (xq14, .inr (1, [.int 0, .int 0, .int 0, .ref xq16, .ref xq17, .ref xq18, .ref xq19]))]) [0, 1] rfl
  have hDc := hD.sub (ws' := [(xo, .inr (11, [.ref xq1, .int 0, .ref xq3, .ref xq7, .ref xq12, .int 0, .int (-1), .ref xq14, .ref xq24, .ref xq34, .ref xq36, .ref xq38, .ref xq48, .ref xq51, .ref xq53, .ref xq55, .ref xq57, .ref xq59, .int 0])), (xq14, .inr (1, [.int 0, .int 0, .int 0, .ref xq16, .ref xq17, .ref xq18, .ref xq19]))]) [0, 1] (by decide) rfl
  have hKc := hK.sub (tys' := []) [] rfl
  have hFc := va_free (wc := [(xo, .inr (11, [.ref xq1, .int 0, .ref xq3, .ref xq7, .ref xq12, .int 0, .int (-1), .ref xq14, .ref xq24, .ref xq34, .ref xq36, .ref xq38, .ref xq48, .ref xq51, .ref xq53, .ref xq55, .ref xq57, .ref xq59, .int 0])), (xq14, .inr (1, [.int 0, .int 0, .int 0, .ref xq16, .ref xq17, .ref xq18, .ref xq19]))]) hD hS hA [0, 1] rfl
  refine va_calli (va_runV (As := [.int z1, .int z2]) (rest := []) ⟨hx, hb, hml, hown, hq⟩ (c_SB_leftOut l dC dI _ xo xq1 xq3 xq7 xq12 xq14 xq24 xq34 xq36 xq38 xq48 xq51 xq53 xq55 xq57 xq59 xq16 xq17 xq18 xq19 z1 z2 ) (cwV 2 hq (gV qw_1039 qw_1040 qw_1041 qw_119 qw_1042) rfl rfl rfl (by decide +kernel) ⟨Nat.le_of_ble_eq_true rfl, Nat.le_of_ble_eq_true rfl⟩) ⟨fun a U g mk q => by obtain ⟨q0, q1, qP, qK, qD, qE⟩ := q; exact ⟨q0, q1, qP, va_K.moved (u := U) (U := U.calling g mk a) (Vm.Alike.refl U.vm) qK, qD, xE.same rfl qE⟩, va_recv hKc hPc (ci := 11) (q0 := 0) rfl rfl, fun U hU hW => ⟨rfl, by rw [hU], by rw [hU]; exact hPc, va_K.moved hW.alike hKc, hDc.weaken (fun _ _ _ _ => trivial), xE.warm hW hE⟩⟩ rfl rfl hl.1 rfl (lv_room (Nat.le_of_ble_eq_true rfl)) dL_law_815 ⟨Nat.le_of_ble_eq_true rfl, Nat.le_of_ble_eq_true rfl⟩) hS (fun q _ h => hFc q h) hFc (fun r_3 u t H1 locs ht hvm hw hB hz1 hk1 hS => ?_)
  have hP1 : va_P (dC, dI) classes [] H1 := vP_nil
  have hD1 : va_D (va_A [(xo, .inr (11, [.ref xq1, .int 0, .ref xq3, .ref xq7, .ref xq12, .int 0, .int (-1), .ref xq14, .ref xq24, .ref xq34, .ref xq36, .ref xq38, .ref xq48, .ref xq51, .ref xq53, .ref xq55, .ref xq57, .ref xq59, .int 0])), (xq14, .inr (1, [.int 0, .int 0, .int 0, .ref xq16, .ref xq17, .ref xq18, .ref xq19]))] H.size) [] := vD_nil
  obtain ⟨hP, hD⟩ := va_join (wr := [(mo, .inr (12, [.ref mq1, .int 0, .int 0, .ref mq3, .ref mq5, .ref mq7, .ref mq9, .ref mq11, .int 0, .int 0, .int 0, .int 0, .int 0, .int 0, .int 0, .ref mq13, .int 0, .ref mq15, .int 0, .ref mq17, .ref mq19, .int (-1), .int 0, .int 0, .int 0, .int 0, .int 0, .ref mq21, .int 0, .ref mq23, .ref mq25, .ref mq27, .int 0, .int 0, .int 0, .ref mq29, .ref mq31, .ref mq33, .long 0, .ref mq35, .ref mq37, .ref mq39, .ref mq41])), (mq19, .inl (mk20, 100, .inl (fun _ => 0)))]) (w1 := []) hP hD [0, 1] [2, 3] rfl rfl (by decide) (by decide) hk1 hFc hP1 hD1
  generalize H1 = H at hP hS ⊢
  have hP : va_P (dC, dI) classes [(mo, .inr (12, [.ref mq1, .int 0, .int 0, .ref mq3, .ref mq5, .ref mq7, .ref mq9, .ref mq11, .int 0, .int 0, .int 0, .int 0, .int 0, .int 0, .int 0, .ref mq13, .int 0, .ref mq15, .int 0, .ref mq17, .ref mq19, .int (-1), .int 0, .int 0, .int 0, .int 0, .int 0, .ref mq21, .int 0, .ref mq23, .ref mq25, .ref mq27, .int 0, .int 0, .int 0, .ref mq29, .ref mq31, .ref mq33, .long 0, .ref mq35, .ref mq37, .ref mq39, .ref mq41])), (mq19, .inl (mk20, 100, .inl (fun _ => 0)))] H := hP
  have hD : va_D A [(mo, .inr (12, [.ref mq1, .int 0, .int 0, .ref mq3, .ref mq5, .ref mq7, .ref mq9, .ref mq11, .int 0, .int 0, .int 0, .int 0, .int 0, .int 0, .int 0, .ref mq13, .int 0, .ref mq15, .int 0, .ref mq17, .ref mq19, .int (-1), .int 0, .int 0, .int 0, .int 0, .int 0, .ref mq21, .int 0, .ref mq23, .ref mq25, .ref mq27, .int 0, .int 0, .int 0, .ref mq29, .ref mq31, .ref mq33, .long 0, .ref mq35, .ref mq37, .ref mq39, .ref mq41])), (mq19, .inl (mk20, 100, .inl (fun _ => 0)))] := hD
  obtain rfl : r_3 = (-1) := hw
  refine lv_aload_n hx hb dL_law_818 rfl (lv_at hl 1 rfl) ?_
  refine lv_aload_n hx hb dL_law_819 rfl (lv_at hl 3 rfl) ?_
  refine lv_iload_n hx hb dL_law_820 rfl (lv_at hl 0 rfl) ?_
  refine lv_iconst (v := 1) hx hb dL_law_821 (by decide) ?_
  refine lv_iadd hx hb dL_law_822 ?_
  refine lv_topi (fun y_4 ey_4 => ?_)
  obtain rfl : y_4 = 1 := ey_4.trans (by decide)
  refine va_sld hx hb hX hbl hbA hS (inr_ok rfl) dL_law_823 ?_
  refine W.eq (g2 := F0 m 824 ls [.int z1, .ref mo, .int (-1)]) (by rw [ez1]; rfl) ?_
  refine lv_aload_n hx hb dL_law_824 rfl (lv_at hl 3 rfl) ?_
  refine lv_iload_n hx hb dL_law_825 rfl (lv_at hl 0 rfl) ?_
  refine lv_iconst (v := 2) hx hb dL_law_826 (by decide) ?_
  refine lv_iadd hx hb dL_law_827 ?_
  refine lv_topi (fun y_5 ey_5 => ?_)
  obtain rfl : y_5 = 2 := ey_5.trans (by decide)
  refine va_sld hx hb hX hbl hbA hS (inr_ok rfl) dL_law_828 ?_
  refine W.eq (g2 := F0 m 829 ls [.int z2, .int z1, .ref mo, .int (-1)]) (by rw [ez2]; rfl) ?_
  have hPc := hP.sub (ws' := [(mo, .inr (12, [.ref mq1, .int 0, .int 0, .ref mq3, .ref mq5, .ref mq7, .ref mq9, .ref mq11, .int 0, .int 0, .int 0, .int 0, .int 0, .int 0, .int 0, .ref mq13, .int 0, .ref mq15, .int 0, .ref mq17, .ref mq19, .int (-1), .int 0, .int 0, .int 0, .int 0, .int 0, .ref mq21, .int 0, .ref mq23, .ref mq25, .ref mq27, .int 0, .int 0, .int 0, .ref mq29, .ref mq31, .ref mq33, .long 0, .ref mq35, .ref mq37, .ref mq39, .ref mq41])), (mq19, .inl (mk20, 100, .inl (fun _ => 0)))]) [0, 1] rfl
  have hDc := hD.sub (ws' := [(mo, .inr (12, [.ref mq1, .int 0, .int 0, .ref mq3, .ref mq5, .ref mq7, .ref mq9, .ref mq11, .int 0, .int 0, .int 0, .int 0, .int 0, .int 0, .int 0, .ref mq13, .int 0, .ref mq15, .int 0, .ref mq17, .ref mq19, .int (-1), .int 0, .int 0, .int 0, .int 0, .int 0, .ref mq21, .int 0, .ref mq23, .ref mq25, .ref mq27, .int 0, .int 0, .int 0, .ref mq29, .ref mq31, .ref mq33, .long 0, .ref mq35, .ref mq37, .ref mq39, .ref mq41])), (mq19, .inl (mk20, 100, .inl (fun _ => 0)))]) [0, 1] (by decide) rfl
  have hKc := hK.sub (tys' := [(mk20, .int)]) [0] rfl
  have hFc := va_free (wc := [(mo, .inr (12, [.ref mq1, .int 0, .int 0, .ref mq3, .ref mq5, .ref mq7, .ref mq9, .ref mq11, .int 0, .int 0, .int 0, .int 0, .int 0, .int 0, .int 0, .ref mq13, .int 0, .ref mq15, .int 0, .ref mq17, .ref mq19, .int (-1), .int 0, .int 0, .int 0, .int 0, .int 0, .ref mq21, .int 0, .ref mq23, .ref mq25, .ref mq27, .int 0, .int 0, .int 0, .ref mq29, .ref mq31, .ref mq33, .long 0, .ref mq35, .ref mq37, .ref mq39, .ref mq41])), (mq19, .inl (mk20, 100, .inl (fun _ => 0)))]) hD hS hA [0, 1] rfl
  refine va_calli (va_runV (As := [.int z1, .int z2]) (rest := [.int (-1)]) ⟨hx, hb, hml, hown, hq⟩ (c_M_leftOut l dC dI _ mo mq1 mq3 mq5 mq7 mq9 mq11 mq13 mq15 mq17 mq19 mq21 mq23 mq25 mq27 mq29 mq31 mq33 mq35 mq37 mq39 mq41 mk20 z1 z2 ) (cwV 2 hq (gV qw_1709 qw_1710 qw_1711 qw_131 qw_1712) rfl rfl rfl (by decide +kernel) ⟨Nat.le_of_ble_eq_true rfl, Nat.le_of_ble_eq_true rfl⟩) ⟨fun a U g mk q => by obtain ⟨q0, q1, qP, qK, qD, qE⟩ := q; exact ⟨q0, q1, qP, va_K.moved (u := U) (U := U.calling g mk a) (Vm.Alike.refl U.vm) qK, qD, xE.same rfl qE⟩, va_recv hKc hPc (ci := 12) (q0 := 0) rfl rfl, fun U hU hW => ⟨rfl, by rw [hU], by rw [hU]; exact hPc, va_K.moved hW.alike hKc, hDc.weaken (fun _ _ _ _ => trivial), xE.warm hW hE⟩⟩ rfl rfl hl.1 rfl (lv_room (Nat.le_of_ble_eq_true rfl)) dL_law_829 ⟨Nat.le_of_ble_eq_true rfl, Nat.le_of_ble_eq_true rfl⟩) hS (fun q _ h => hFc q h) hFc (fun r_6 u t H1 locs ht hvm hw hB hz1 hk1 hS => ?_)
  have hP1 : va_P (dC, dI) classes [] H1 := vP_nil
  have hD1 : va_D (va_A [(mo, .inr (12, [.ref mq1, .int 0, .int 0, .ref mq3, .ref mq5, .ref mq7, .ref mq9, .ref mq11, .int 0, .int 0, .int 0, .int 0, .int 0, .int 0, .int 0, .ref mq13, .int 0, .ref mq15, .int 0, .ref mq17, .ref mq19, .int (-1), .int 0, .int 0, .int 0, .int 0, .int 0, .ref mq21, .int 0, .ref mq23, .ref mq25, .ref mq27, .int 0, .int 0, .int 0, .ref mq29, .ref mq31, .ref mq33, .long 0, .ref mq35, .ref mq37, .ref mq39, .ref mq41])), (mq19, .inl (mk20, 100, .inl (fun _ => 0)))] H.size) [] := vD_nil
  obtain ⟨hP, hD⟩ := va_join (wr := []) (w1 := []) hP hD [0, 1] [] rfl rfl (by decide) (by decide) hk1 hFc hP1 hD1
  generalize H1 = H at hP hS ⊢
  have hP : va_P (dC, dI) classes [] H := hP
  have hD : va_D A [] := hD
  obtain rfl : r_6 = (-1) := hw
  refine lv_icmp_eq (tgt := 1210) hx hb dL_law_832 (by decide) (fun _ => ?_) (fun c9 => absurd c9 (by decide))
  exact law_end C0 hAq hS (lv_sub hl [0, 1, 2, 3] rfl)
set_option maxHeartbeats 4000000 in
set_option maxRecDepth 100000 in
/-- rests, the first call -/
theorem law_25 {p : Program} {l : Launch} {e : Env} {s : State} {m : MethodId} {below : List Frame} {meth : Method} {c : Code} {A : Nat → Prop} {kA vA : Nat → Nat} {dC : Nat → ClassId} {dI : Nat → Nat → Nat} {b : Nat} {xs : Nat → Int32} {xo : Nat} {mo : Nat} {xq1 : Nat} {xq3 : Nat} {xq7 : Nat} {xq12 : Nat} {xq14 : Nat} {xq24 : Nat} {xq34 : Nat} {xq36 : Nat} {xq38 : Nat} {xq48 : Nat} {xq51 : Nat} {xq53 : Nat} {xq55 : Nat} {xq57 : Nat} {xq59 : Nat} {xq16 : Nat} {xq17 : Nat} {xq18 : Nat} {xq19 : Nat} {mq1 : Nat} {mq3 : Nat} {mq5 : Nat} {mq7 : Nat} {mq9 : Nat} {mq11 : Nat} {mq13 : Nat} {mq15 : Nat} {mq17 : Nat} {mq19 : Nat} {mq21 : Nat} {mq23 : Nat} {mq25 : Nat} {mq27 : Nat} {mq29 : Nat} {mq31 : Nat} {mq33 : Nat} {mq35 : Nat} {mq37 : Nat} {mq39 : Nat} {mq41 : Nat} {mk20 : ClassId} (C0 : lw_At p s m meth c b 6 xs) (hA : ∀ q : Nat, s.heap.size ≤ q → A q) (hAq : ∀ q : Nat, A q → s.heap.size ≤ q) (hE : xE s) (hT : xT kA vA A s s.heap) (hK : va_K (dC, dI) classes [(mk20, .int)] s) {H : Heap} {locs : List Loc} (hP : va_P (dC, dI) classes [(xo, .inr (11, [.ref xq1, .int 0, .ref xq3, .ref xq7, .ref xq12, .int 0, .int (-1), .ref xq14, .ref xq24, .ref xq34, .ref xq36, .ref xq38, .ref xq48, .ref xq51, .ref xq53, .ref xq55, .ref xq57, .ref xq59, .int 0])), (xq14, .inr (1, [.int 0, .int 0, .int 0, .ref xq16, .ref xq17, .ref xq18, .ref xq19])), (mo, .inr (12, [.ref mq1, .int 0, .int 0, .ref mq3, .ref mq5, .ref mq7, .ref mq9, .ref mq11, .int 0, .int 0, .int 0, .int 0, .int 0, .int 0, .int 0, .ref mq13, .int 0, .ref mq15, .int 0, .ref mq17, .ref mq19, .int (-1), .int 0, .int 0, .int 0, .int 0, .int 0, .ref mq21, .int 0, .ref mq23, .ref mq25, .ref mq27, .int 0, .int 0, .int 0, .ref mq29, .ref mq31, .ref mq33, .long 0, .ref mq35, .ref mq37, .ref mq39, .ref mq41])), (mq19, .inl (mk20, 100, .inl (fun _ => 0)))] H) (hD : va_D A [(xo, .inr (11, [.ref xq1, .int 0, .ref xq3, .ref xq7, .ref xq12, .int 0, .int (-1), .ref xq14, .ref xq24, .ref xq34, .ref xq36, .ref xq38, .ref xq48, .ref xq51, .ref xq53, .ref xq55, .ref xq57, .ref xq59, .int 0])), (xq14, .inr (1, [.int 0, .int 0, .int 0, .ref xq16, .ref xq17, .ref xq18, .ref xq19])), (mo, .inr (12, [.ref mq1, .int 0, .int 0, .ref mq3, .ref mq5, .ref mq7, .ref mq9, .ref mq11, .int 0, .int 0, .int 0, .int 0, .int 0, .int 0, .int 0, .ref mq13, .int 0, .ref mq15, .int 0, .ref mq17, .ref mq19, .int (-1), .int 0, .int 0, .int 0, .int 0, .int 0, .ref mq21, .int 0, .ref mq23, .ref mq25, .ref mq27, .int 0, .int 0, .int 0, .ref mq29, .ref mq31, .ref mq33, .long 0, .ref mq35, .ref mq37, .ref mq39, .ref mq41])), (mq19, .inl (mk20, 100, .inl (fun _ => 0)))]) (hS : va_S A s.heap H locs) {ls : Array Slot} (hl : lv_has ls 4 [(3, .int 0), (2, .ref mo), (1, .ref xo), (0, .ref b)]) : W p l e room_1 s m #[Value.ref b] below meth c H locs 152 8829 (lw_Z below #[Value.ref b] s) (F0 m 837 ls []) := by
  obtain ⟨hx, hb, hr, hml, hown, hts, hX, hbl, hlocks, hgv⟩ := id C0
  have hown : s.vm.findClass RL = some m.cls := hown
  have hq : ∀ w ∈ wsA, w.before _ s = true := fun w h => hts w (List.mem_filter.mp h).1
  have hbA : ¬ A b := fun h => Nat.not_le.mpr hbl (hAq b h)
  obtain ⟨z1, ez1⟩ : ∃ z : Int32, z = xs 1 := ⟨_, rfl⟩
  obtain ⟨z2, ez2⟩ : ∃ z : Int32, z = xs 2 := ⟨_, rfl⟩
  obtain ⟨z3, ez3⟩ : ∃ z : Int32, z = xs 3 := ⟨_, rfl⟩
  obtain ⟨z4, ez4⟩ : ∃ z : Int32, z = xs 4 := ⟨_, rfl⟩
  refine lv_aload_n hx hb dL_law_837 rfl (lv_at hl 2 rfl) ?_
  refine lv_aload_n hx hb dL_law_838 rfl (lv_at hl 3 rfl) ?_
  refine lv_iload_n hx hb dL_law_839 rfl (lv_at hl 0 rfl) ?_
  refine lv_iconst (v := 1) hx hb dL_law_840 (by decide) ?_
  refine lv_iadd hx hb dL_law_841 ?_
  refine lv_topi (fun y_1 ey_1 => ?_)
  obtain rfl : y_1 = 1 := ey_1.trans (by decide)
  refine va_sld hx hb hX hbl hbA hS (inr_ok rfl) dL_law_842 ?_
  refine W.eq (g2 := F0 m 843 ls [.int z1, .ref xo]) (by rw [ez1]; rfl) ?_
  refine lv_aload_n hx hb dL_law_843 rfl (lv_at hl 3 rfl) ?_
  refine lv_iload_n hx hb dL_law_844 rfl (lv_at hl 0 rfl) ?_
  refine lv_iconst (v := 2) hx hb dL_law_845 (by decide) ?_
  refine lv_iadd hx hb dL_law_846 ?_
  refine lv_topi (fun y_2 ey_2 => ?_)
  obtain rfl : y_2 = 2 := ey_2.trans (by decide)
  refine va_sld hx hb hX hbl hbA hS (inr_ok rfl) dL_law_847 ?_
  refine W.eq (g2 := F0 m 848 ls [.int z2, .int z1, .ref xo]) (by rw [ez2]; rfl) ?_
  refine lv_aload_n hx hb dL_law_848 rfl (lv_at hl 3 rfl) ?_
  refine lv_iload_n hx hb dL_law_849 rfl (lv_at hl 0 rfl) ?_
  refine lv_iconst (v := 3) hx hb dL_law_850 (by decide) ?_
  refine lv_iadd hx hb dL_law_851 ?_
  refine lv_topi (fun y_3 ey_3 => ?_)
  obtain rfl : y_3 = 3 := ey_3.trans (by decide)
  refine va_sld hx hb hX hbl hbA hS (inr_ok rfl) dL_law_852 ?_
  refine W.eq (g2 := F0 m 853 ls [.int z3, .int z2, .int z1, .ref xo]) (by rw [ez3]; rfl) ?_
  refine lv_aload_n hx hb dL_law_853 rfl (lv_at hl 3 rfl) ?_
  refine lv_iload_n hx hb dL_law_854 rfl (lv_at hl 0 rfl) ?_
  refine lv_iconst (v := 4) hx hb dL_law_855 (by decide) ?_
  refine lv_iadd hx hb dL_law_856 ?_
  refine lv_topi (fun y_4 ey_4 => ?_)
  obtain rfl : y_4 = 4 := ey_4.trans (by decide)
  refine va_sld hx hb hX hbl hbA hS (inr_ok rfl) dL_law_857 ?_
  refine W.eq (g2 := F0 m 858 ls [.int z4, .int z3, .int z2, .int z1, .ref xo]) (by rw [ez4]; rfl) ?_
  have hPc := hP.sub (ws' := [(xo, .inr (11, [.ref xq1, .int 0, .ref xq3, .ref xq7, .ref xq12, .int 0, .int (-1), .ref xq14, .ref xq24, .ref xq34, .ref xq36, .ref xq38, .ref xq48, .ref xq51, .ref xq53, .ref xq55, .ref xq57, .ref xq59, .int 0])), (xq14, .inr (1, [.int 0, .int 0, .int 0, .ref xq16, .ref xq17, .ref xq18, .ref xq19]))]) [0, 1] rfl
  have hDc := hD.sub (ws' := [(xo, .inr (11, [.ref xq1, .int 0, .ref xq3, .ref xq7, .ref xq12, .int 0, .int (-1), .ref xq14, .ref xq24, .ref xq34, .ref xq36, .ref xq38, .ref xq48, .ref xq51, .ref xq53, .ref xq55, .ref xq57, .ref xq59, .int 0])), (xq14, .inr (1, [.int 0, .int 0, .int 0, .ref xq16, .ref xq17, .ref xq18, .ref xq19]))]) [0, 1] (by decide) rfl
  have hKc := hK.sub (tys' := []) [] rfl
  have hFc := va_free (wc := [(xo, .inr (11, [.ref xq1, .int 0, .ref xq3, .ref xq7, .ref xq12, .int 0, .int (-1), .ref xq14, .ref xq24, .ref xq34, .ref xq36, .ref xq38, .ref xq48, .ref xq51, .ref xq53, .ref xq55, .ref xq57, .ref xq59, .int 0])), (xq14, .inr (1, [.int 0, .int 0, .int 0, .ref xq16, .ref xq17, .ref xq18, .ref xq19]))]) hD hS hA [0, 1] rfl
  refine va_calli (va_runV (As := [.int z1, .int z2, .int z3, .int z4]) (rest := []) ⟨hx, hb, hml, hown, hq⟩ (c_SB_rests l dC dI _ xo xq1 xq3 xq7 xq12 xq14 xq24 xq34 xq36 xq38 xq48 xq51 xq53 xq55 xq57 xq59 xq16 xq17 xq18 xq19 z1 z2 z3 z4 ) (cwV 4 hq (gV qw_1048 qw_1049 qw_1050 qw_119 qw_1051) rfl rfl rfl (by decide +kernel) ⟨Nat.le_of_ble_eq_true rfl, Nat.le_of_ble_eq_true rfl⟩) ⟨fun a U g mk q => by obtain ⟨q0, q1, qP, qK, qD, qE⟩ := q; exact ⟨q0, q1, qP, va_K.moved (u := U) (U := U.calling g mk a) (Vm.Alike.refl U.vm) qK, qD, xE.same rfl qE⟩, va_recv hKc hPc (ci := 11) (q0 := 0) rfl rfl, fun U hU hW => ⟨rfl, by rw [hU], by rw [hU]; exact hPc, va_K.moved hW.alike hKc, hDc.weaken (fun _ _ _ _ => trivial), xE.warm hW hE⟩⟩ rfl rfl hl.1 rfl (lv_room (Nat.le_of_ble_eq_true rfl)) dL_law_858 ⟨Nat.le_of_ble_eq_true rfl, Nat.le_of_ble_eq_true rfl⟩) hS (fun q _ h => hFc q h) hFc (fun r_5 u t H1 locs ht hvm hw hB hz1 hk1 hS => ?_)
  have hP1 : va_P (dC, dI) classes [] H1 := vP_nil
  have hD1 : va_D (va_A [(xo, .inr (11, [.ref xq1, .int 0, .ref xq3, .ref xq7, .ref xq12, .int 0, .int (-1), .ref xq14, .ref xq24, .ref xq34, .ref xq36, .ref xq38, .ref xq48, .ref xq51, .ref xq53, .ref xq55, .ref xq57, .ref xq59, .int 0])), (xq14, .inr (1, [.int 0, .int 0, .int 0, .ref xq16, .ref xq17, .ref xq18, .ref xq19]))] H.size) [] := vD_nil
  obtain ⟨hP, hD⟩ := va_join (wr := [(mo, .inr (12, [.ref mq1, .int 0, .int 0, .ref mq3, .ref mq5, .ref mq7, .ref mq9, .ref mq11, .int 0, .int 0, .int 0, .int 0, .int 0, .int 0, .int 0, .ref mq13, .int 0, .ref mq15, .int 0, .ref mq17, .ref mq19, .int (-1), .int 0, .int 0, .int 0, .int 0, .int 0, .ref mq21, .int 0, .ref mq23, .ref mq25, .ref mq27, .int 0, .int 0, .int 0, .ref mq29, .ref mq31, .ref mq33, .long 0, .ref mq35, .ref mq37, .ref mq39, .ref mq41])), (mq19, .inl (mk20, 100, .inl (fun _ => 0)))]) (w1 := []) hP hD [0, 1] [2, 3] rfl rfl (by decide) (by decide) hk1 hFc hP1 hD1
  generalize H1 = H at hP hS ⊢
  have hP : va_P (dC, dI) classes [(mo, .inr (12, [.ref mq1, .int 0, .int 0, .ref mq3, .ref mq5, .ref mq7, .ref mq9, .ref mq11, .int 0, .int 0, .int 0, .int 0, .int 0, .int 0, .int 0, .ref mq13, .int 0, .ref mq15, .int 0, .ref mq17, .ref mq19, .int (-1), .int 0, .int 0, .int 0, .int 0, .int 0, .ref mq21, .int 0, .ref mq23, .ref mq25, .ref mq27, .int 0, .int 0, .int 0, .ref mq29, .ref mq31, .ref mq33, .long 0, .ref mq35, .ref mq37, .ref mq39, .ref mq41])), (mq19, .inl (mk20, 100, .inl (fun _ => 0)))] H := hP
  have hD : va_D A [(mo, .inr (12, [.ref mq1, .int 0, .int 0, .ref mq3, .ref mq5, .ref mq7, .ref mq9, .ref mq11, .int 0, .int 0, .int 0, .int 0, .int 0, .int 0, .int 0, .ref mq13, .int 0, .ref mq15, .int 0, .ref mq17, .ref mq19, .int (-1), .int 0, .int 0, .int 0, .int 0, .int 0, .ref mq21, .int 0, .ref mq23, .ref mq25, .ref mq27, .int 0, .int 0, .int 0, .ref mq29, .ref mq31, .ref mq33, .long 0, .ref mq35, .ref mq37, .ref mq39, .ref mq41])), (mq19, .inl (mk20, 100, .inl (fun _ => 0)))] := hD
  obtain rfl : r_5 = (-1) := hw
  refine lv_aload_n hx hb dL_law_861 rfl (lv_at hl 1 rfl) ?_
  refine lv_aload_n hx hb dL_law_862 rfl (lv_at hl 3 rfl) ?_
  refine lv_iload_n hx hb dL_law_863 rfl (lv_at hl 0 rfl) ?_
  refine lv_iconst (v := 1) hx hb dL_law_864 (by decide) ?_
  refine lv_iadd hx hb dL_law_865 ?_
  refine lv_topi (fun y_6 ey_6 => ?_)
  obtain rfl : y_6 = 1 := ey_6.trans (by decide)
  refine va_sld hx hb hX hbl hbA hS (inr_ok rfl) dL_law_866 ?_
  refine W.eq (g2 := F0 m 867 ls [.int z1, .ref mo, .int (-1)]) (by rw [ez1]; rfl) ?_
  refine lv_aload_n hx hb dL_law_867 rfl (lv_at hl 3 rfl) ?_
  refine lv_iload_n hx hb dL_law_868 rfl (lv_at hl 0 rfl) ?_
  refine lv_iconst (v := 2) hx hb dL_law_869 (by decide) ?_
  refine lv_iadd hx hb dL_law_870 ?_
  refine lv_topi (fun y_7 ey_7 => ?_)
  obtain rfl : y_7 = 2 := ey_7.trans (by decide)
  refine va_sld hx hb hX hbl hbA hS (inr_ok rfl) dL_law_871 ?_
  refine W.eq (g2 := F0 m 872 ls [.int z2, .int z1, .ref mo, .int (-1)]) (by rw [ez2]; rfl) ?_
  refine lv_aload_n hx hb dL_law_872 rfl (lv_at hl 3 rfl) ?_
  refine lv_iload_n hx hb dL_law_873 rfl (lv_at hl 0 rfl) ?_
  refine lv_iconst (v := 3) hx hb dL_law_874 (by decide) ?_
  refine lv_iadd hx hb dL_law_875 ?_
  refine lv_topi (fun y_8 ey_8 => ?_)
  obtain rfl : y_8 = 3 := ey_8.trans (by decide)
  refine va_sld hx hb hX hbl hbA hS (inr_ok rfl) dL_law_876 ?_
  refine W.eq (g2 := F0 m 877 ls [.int z3, .int z2, .int z1, .ref mo, .int (-1)]) (by rw [ez3]; rfl) ?_
  refine lv_aload_n hx hb dL_law_877 rfl (lv_at hl 3 rfl) ?_
  refine lv_iload_n hx hb dL_law_878 rfl (lv_at hl 0 rfl) ?_
  refine lv_iconst (v := 4) hx hb dL_law_879 (by decide) ?_
  refine lv_iadd hx hb dL_law_880 ?_
  refine lv_topi (fun y_9 ey_9 => ?_)
  obtain rfl : y_9 = 4 := ey_9.trans (by decide)
  refine va_sld hx hb hX hbl hbA hS (inr_ok rfl) dL_law_881 ?_
  refine W.eq (g2 := F0 m 882 ls [.int z4, .int z3, .int z2, .int z1, .ref mo, .int (-1)]) (by rw [ez4]; rfl) ?_
  have hPc := hP.sub (ws' := [(mo, .inr (12, [.ref mq1, .int 0, .int 0, .ref mq3, .ref mq5, .ref mq7, .ref mq9, .ref mq11, .int 0, .int 0, .int 0, .int 0, .int 0, .int 0, .int 0, .ref mq13, .int 0, .ref mq15, .int 0, .ref mq17, .ref mq19, .int (-1), .int 0, .int 0, .int 0, .int 0, .int 0, .ref mq21, .int 0, .ref mq23, .ref mq25, .ref mq27, .int 0, .int 0, .int 0, .ref mq29, .ref mq31, .ref mq33, .long 0, .ref mq35, .ref mq37, .ref mq39, .ref mq41])), (mq19, .inl (mk20, 100, .inl (fun _ => 0)))]) [0, 1] rfl
  have hDc := hD.sub (ws' := [(mo, .inr (12, [.ref mq1, .int 0, .int 0, .ref mq3, .ref mq5, .ref mq7, .ref mq9, .ref mq11, .int 0, .int 0, .int 0, .int 0, .int 0, .int 0, .int 0, .ref mq13, .int 0, .ref mq15, .int 0, .ref mq17, .ref mq19, .int (-1), .int 0, .int 0, .int 0, .int 0, .int 0, .ref mq21, .int 0, .ref mq23, .ref mq25, .ref mq27, .int 0, .int 0, .int 0, .ref mq29, .ref mq31, .ref mq33, .long 0, .ref mq35, .ref mq37, .ref mq39, .ref mq41])), (mq19, .inl (mk20, 100, .inl (fun _ => 0)))]) [0, 1] (by decide) rfl
  have hKc := hK.sub (tys' := [(mk20, .int)]) [0] rfl
  have hFc := va_free (wc := [(mo, .inr (12, [.ref mq1, .int 0, .int 0, .ref mq3, .ref mq5, .ref mq7, .ref mq9, .ref mq11, .int 0, .int 0, .int 0, .int 0, .int 0, .int 0, .int 0, .ref mq13, .int 0, .ref mq15, .int 0, .ref mq17, .ref mq19, .int (-1), .int 0, .int 0, .int 0, .int 0, .int 0, .ref mq21, .int 0, .ref mq23, .ref mq25, .ref mq27, .int 0, .int 0, .int 0, .ref mq29, .ref mq31, .ref mq33, .long 0, .ref mq35, .ref mq37, .ref mq39, .ref mq41])), (mq19, .inl (mk20, 100, .inl (fun _ => 0)))]) hD hS hA [0, 1] rfl
  refine va_calli (va_runV (As := [.int z1, .int z2, .int z3, .int z4]) (rest := [.int (-1)]) ⟨hx, hb, hml, hown, hq⟩ (c_M_rests l dC dI _ mo mq1 mq3 mq5 mq7 mq9 mq11 mq13 mq15 mq17 mq19 mq21 mq23 mq25 mq27 mq29 mq31 mq33 mq35 mq37 mq39 mq41 mk20 z1 z2 z3 z4 ) (cwV 4 hq (gV qw_1718 qw_1719 qw_1720 qw_131 qw_1721) rfl rfl rfl (by decide +kernel) ⟨Nat.le_of_ble_eq_true rfl, Nat.le_of_ble_eq_true rfl⟩) ⟨fun a U g mk q => by obtain ⟨q0, q1, qP, qK, qD, qE⟩ := q; exact ⟨q0, q1, qP, va_K.moved (u := U) (U := U.calling g mk a) (Vm.Alike.refl U.vm) qK, qD, xE.same rfl qE⟩, va_recv hKc hPc (ci := 12) (q0 := 0) rfl rfl, fun U hU hW => ⟨rfl, by rw [hU], by rw [hU]; exact hPc, va_K.moved hW.alike hKc, hDc.weaken (fun _ _ _ _ => trivial), xE.warm hW hE⟩⟩ rfl rfl hl.1 rfl (lv_room (Nat.le_of_ble_eq_true rfl)) dL_law_882 ⟨Nat.le_of_ble_eq_true rfl, Nat.le_of_ble_eq_true rfl⟩) hS (fun q _ h => hFc q h) hFc (fun r_10 u t H1 locs ht hvm hw hB hz1 hk1 hS => ?_)
  have hP1 : va_P (dC, dI) classes [] H1 := vP_nil
  have hD1 : va_D (va_A [(mo, .inr (12, [.ref mq1, .int 0, .int 0, .ref mq3, .ref mq5, .ref mq7, .ref mq9, .ref mq11, .int 0, .int 0, .int 0, .int 0, .int 0, .int 0, .int 0, .ref mq13, .int 0, .ref mq15, .int 0, .ref mq17, .ref mq19, .int (-1), .int 0, .int 0, .int 0, .int 0, .int 0, .ref mq21, .int 0, .ref mq23, .ref mq25, .ref mq27, .int 0, .int 0, .int 0, .ref mq29, .ref mq31, .ref mq33, .long 0, .ref mq35, .ref mq37, .ref mq39, .ref mq41])), (mq19, .inl (mk20, 100, .inl (fun _ => 0)))] H.size) [] := vD_nil
  obtain ⟨hP, hD⟩ := va_join (wr := []) (w1 := []) hP hD [0, 1] [] rfl rfl (by decide) (by decide) hk1 hFc hP1 hD1
  generalize H1 = H at hP hS ⊢
  have hP : va_P (dC, dI) classes [] H := hP
  have hD : va_D A [] := hD
  obtain rfl : r_10 = (-1) := hw
  refine lv_icmp_eq (tgt := 1210) hx hb dL_law_885 (by decide) (fun _ => ?_) (fun c9 => absurd c9 (by decide))
  exact law_end C0 hAq hS (lv_sub hl [0, 1, 2, 3] rfl)
set_option maxHeartbeats 4000000 in
set_option maxRecDepth 100000 in
/-- crumbs, the first call -/
theorem law_26 {p : Program} {l : Launch} {e : Env} {s : State} {m : MethodId} {below : List Frame} {meth : Method} {c : Code} {A : Nat → Prop} {kA vA : Nat → Nat} {dC : Nat → ClassId} {dI : Nat → Nat → Nat} {b : Nat} {xs : Nat → Int32} {xo : Nat} {mo : Nat} {xq1 : Nat} {xq3 : Nat} {xq7 : Nat} {xq12 : Nat} {xq14 : Nat} {xq24 : Nat} {xq34 : Nat} {xq36 : Nat} {xq38 : Nat} {xq48 : Nat} {xq51 : Nat} {xq53 : Nat} {xq55 : Nat} {xq57 : Nat} {xq59 : Nat} {xq16 : Nat} {xq17 : Nat} {xq18 : Nat} {xq19 : Nat} {mq1 : Nat} {mq3 : Nat} {mq5 : Nat} {mq7 : Nat} {mq9 : Nat} {mq11 : Nat} {mq13 : Nat} {mq15 : Nat} {mq17 : Nat} {mq19 : Nat} {mq21 : Nat} {mq23 : Nat} {mq25 : Nat} {mq27 : Nat} {mq29 : Nat} {mq31 : Nat} {mq33 : Nat} {mq35 : Nat} {mq37 : Nat} {mq39 : Nat} {mq41 : Nat} {mk20 : ClassId} (C0 : lw_At p s m meth c b 6 xs) (hA : ∀ q : Nat, s.heap.size ≤ q → A q) (hAq : ∀ q : Nat, A q → s.heap.size ≤ q) (hE : xE s) (hT : xT kA vA A s s.heap) (hK : va_K (dC, dI) classes [(mk20, .int)] s) {H : Heap} {locs : List Loc} (hP : va_P (dC, dI) classes [(xo, .inr (11, [.ref xq1, .int 0, .ref xq3, .ref xq7, .ref xq12, .int 0, .int (-1), .ref xq14, .ref xq24, .ref xq34, .ref xq36, .ref xq38, .ref xq48, .ref xq51, .ref xq53, .ref xq55, .ref xq57, .ref xq59, .int 0])), (xq14, .inr (1, [.int 0, .int 0, .int 0, .ref xq16, .ref xq17, .ref xq18, .ref xq19])), (mo, .inr (12, [.ref mq1, .int 0, .int 0, .ref mq3, .ref mq5, .ref mq7, .ref mq9, .ref mq11, .int 0, .int 0, .int 0, .int 0, .int 0, .int 0, .int 0, .ref mq13, .int 0, .ref mq15, .int 0, .ref mq17, .ref mq19, .int (-1), .int 0, .int 0, .int 0, .int 0, .int 0, .ref mq21, .int 0, .ref mq23, .ref mq25, .ref mq27, .int 0, .int 0, .int 0, .ref mq29, .ref mq31, .ref mq33, .long 0, .ref mq35, .ref mq37, .ref mq39, .ref mq41])), (mq19, .inl (mk20, 100, .inl (fun _ => 0)))] H) (hD : va_D A [(xo, .inr (11, [.ref xq1, .int 0, .ref xq3, .ref xq7, .ref xq12, .int 0, .int (-1), .ref xq14, .ref xq24, .ref xq34, .ref xq36, .ref xq38, .ref xq48, .ref xq51, .ref xq53, .ref xq55, .ref xq57, .ref xq59, .int 0])), (xq14, .inr (1, [.int 0, .int 0, .int 0, .ref xq16, .ref xq17, .ref xq18, .ref xq19])), (mo, .inr (12, [.ref mq1, .int 0, .int 0, .ref mq3, .ref mq5, .ref mq7, .ref mq9, .ref mq11, .int 0, .int 0, .int 0, .int 0, .int 0, .int 0, .int 0, .ref mq13, .int 0, .ref mq15, .int 0, .ref mq17, .ref mq19, .int (-1), .int 0, .int 0, .int 0, .int 0, .int 0, .ref mq21, .int 0, .ref mq23, .ref mq25, .ref mq27, .int 0, .int 0, .int 0, .ref mq29, .ref mq31, .ref mq33, .long 0, .ref mq35, .ref mq37, .ref mq39, .ref mq41])), (mq19, .inl (mk20, 100, .inl (fun _ => 0)))]) (hS : va_S A s.heap H locs) {ls : Array Slot} (hl : lv_has ls 4 [(3, .int 0), (2, .ref mo), (1, .ref xo), (0, .ref b)]) : W p l e room_1 s m #[Value.ref b] below meth c H locs 152 8829 (lw_Z below #[Value.ref b] s) (F0 m 890 ls []) := by
  obtain ⟨hx, hb, hr, hml, hown, hts, hX, hbl, hlocks, hgv⟩ := id C0
  have hown : s.vm.findClass RL = some m.cls := hown
  have hq : ∀ w ∈ wsA, w.before _ s = true := fun w h => hts w (List.mem_filter.mp h).1
  have hbA : ¬ A b := fun h => Nat.not_le.mpr hbl (hAq b h)
  obtain ⟨z1, ez1⟩ : ∃ z : Int32, z = xs 1 := ⟨_, rfl⟩
  obtain ⟨z2, ez2⟩ : ∃ z : Int32, z = xs 2 := ⟨_, rfl⟩
  refine lv_aload_n hx hb dL_law_890 rfl (lv_at hl 2 rfl) ?_
  refine lv_aload_n hx hb dL_law_891 rfl (lv_at hl 3 rfl) ?_
  refine lv_iload_n hx hb dL_law_892 rfl (lv_at hl 0 rfl) ?_
  refine lv_iconst (v := 1) hx hb dL_law_893 (by decide) ?_
  refine lv_iadd hx hb dL_law_894 ?_
  refine lv_topi (fun y_1 ey_1 => ?_)
  obtain rfl : y_1 = 1 := ey_1.trans (by decide)
  refine va_sld hx hb hX hbl hbA hS (inr_ok rfl) dL_law_895 ?_
  refine W.eq (g2 := F0 m 896 ls [.int z1, .ref xo]) (by rw [ez1]; rfl) ?_
  refine lv_aload_n hx hb dL_law_896 rfl (lv_at hl 3 rfl) ?_
  refine lv_iload_n hx hb dL_law_897 rfl (lv_at hl 0 rfl) ?_
  refine lv_iconst (v := 2) hx hb dL_law_898 (by decide) ?_
  refine lv_iadd hx hb dL_law_899 ?_
  refine lv_topi (fun y_2 ey_2 => ?_)
  obtain rfl : y_2 = 2 := ey_2.trans (by decide)
  refine va_sld hx hb hX hbl hbA hS (inr_ok rfl) dL_law_900 ?_
  refine W.eq (g2 := F0 m 901 ls [.int z2, .int z1, .ref xo]) (by rw [ez2]; rfl) ?_
  have hPc := hP.sub (ws' := [(xo, .inr (11, [.ref xq1, .int 0, .ref xq3, .ref xq7, .ref xq12, .int 0, .int (-1), .ref xq14, .ref xq24, .ref xq34, .ref xq36, .ref xq38, .ref xq48, .ref xq51, .ref xq53, .ref xq55, .ref xq57, .ref xq59, .int 0])), (xq14, .inr (1, [.int 0, .int 0, .int 0, .ref xq16, .ref xq17, .ref xq18, .ref xq19]))]) [0, 1] rfl
  have hDc := hD.sub (ws' := [(xo, .inr (11, [.ref xq1, .int 0, .ref xq3, .ref xq7, .ref xq12, .int 0, .int (-1), .ref xq14, .ref xq24, .ref xq34, .ref xq36, .ref xq38, .ref xq48, .ref xq51, .ref xq53, .ref xq55, .ref xq57, .ref xq59, .int 0])), (xq14, .inr (1, [.int 0, .int 0, .int 0, .ref xq16, .ref xq17, .ref xq18, .ref xq19]))]) [0, 1] (by decide) rfl
  have hKc := hK.sub (tys' := []) [] rfl
  have hFc := va_free (wc := [(xo, .inr (11, [.ref xq1, .int 0, .ref xq3, .ref xq7, .ref xq12, .int 0, .int (-1), .ref xq14, .ref xq24, .ref xq34, .ref xq36, .ref xq38, .ref xq48, .ref xq51, .ref xq53, .ref xq55, .ref xq57, .ref xq59, .int 0])), (xq14, .inr (1, [.int 0, .int 0, .int 0, .ref xq16, .ref xq17, .ref xq18, .ref xq19]))]) hD hS hA [0, 1] rfl
  refine va_calli (va_runV (As := [.int z1, .int z2]) (rest := []) ⟨hx, hb, hml, hown, hq⟩ (c_SB_crumbs l dC dI _ xo xq1 xq3 xq7 xq12 xq14 xq24 xq34 xq36 xq38 xq48 xq51 xq53 xq55 xq57 xq59 xq16 xq17 xq18 xq19 z1 z2 ) (cwV 2 hq (gV qw_1068 qw_1069 qw_1070 qw_119 qw_1071) rfl rfl rfl (by decide +kernel) ⟨Nat.le_of_ble_eq_true rfl, Nat.le_of_ble_eq_true rfl⟩) ⟨fun a U g mk q => by obtain ⟨q0, q1, qP, qK, qD, qE⟩ := q; exact ⟨q0, q1, qP, va_K.moved (u := U) (U := U.calling g mk a) (Vm.Alike.refl U.vm) qK, qD, xE.same rfl qE⟩, va_recv hKc hPc (ci := 11) (q0 := 0) rfl rfl, fun U hU hW => ⟨rfl, by rw [hU], by rw [hU]; exact hPc, va_K.moved hW.alike hKc, hDc.weaken (fun _ _ _ _ => trivial), xE.warm hW hE⟩⟩ rfl rfl hl.1 rfl (lv_room (Nat.le_of_ble_eq_true rfl)) dL_law_901 ⟨Nat.le_of_ble_eq_true rfl, Nat.le_of_ble_eq_true rfl⟩) hS (fun q _ h => hFc q h) hFc (fun r_3 u t H1 locs ht hvm hw hB hz1 hk1 hS => ?_)
  have hP1 : va_P (dC, dI) classes [] H1 := vP_nil
  have hD1 : va_D (va_A [(xo, .inr (11, [.ref xq1, .int 0, .ref xq3, .ref xq7, .ref xq12, .int 0, .int (-1), .ref xq14, .ref xq24, .ref xq34, .ref xq36, .ref xq38, .ref xq48, .ref xq51, .ref xq53, .ref xq55, .ref xq57, .ref xq59, .int 0])), (xq14, .inr (1, [.int 0, .int 0, .int 0, .ref xq16, .ref xq17, .ref xq18, .ref xq19]))] H.size) [] := vD_nil
  obtain ⟨hP, hD⟩ := va_join (wr := [(mo, .inr (12, [.ref mq1, .int 0, .int 0, .ref mq3, .ref mq5, .ref mq7, .ref mq9, .ref mq11, .int 0, .int 0, .int 0, .int 0, .int 0, .int 0, .int 0, .ref mq13, .int 0, .ref mq15, .int 0, .ref mq17, .ref mq19, .int (-1), .int 0, .int 0, .int 0, .int 0, .int 0, .ref mq21, .int 0, .ref mq23, .ref mq25, .ref mq27, .int 0, .int 0, .int 0, .ref mq29, .ref mq31, .ref mq33, .long 0, .ref mq35, .ref mq37, .ref mq39, .ref mq41])), (mq19, .inl (mk20, 100, .inl (fun _ => 0)))]) (w1 := []) hP hD [0, 1] [2, 3] rfl rfl (by decide) (by decide) hk1 hFc hP1 hD1
  generalize H1 = H at hP hS ⊢
  have hP : va_P (dC, dI) classes [(mo, .inr (12, [.ref mq1, .int 0, .int 0, .ref mq3, .ref mq5, .ref mq7, .ref mq9, .ref mq11, .int 0, .int 0, .int 0, .int 0, .int 0, .int 0, .int 0, .ref mq13, .int 0, .ref mq15, .int 0, .ref mq17, .ref mq19, .int (-1), .int 0, .int 0, .int 0, .int 0, .int 0, .ref mq21, .int 0, .ref mq23, .ref mq25, .ref mq27, .int 0, .int 0, .int 0, .ref mq29, .ref mq31, .ref mq33, .long 0, .ref mq35, .ref mq37, .ref mq39, .ref mq41])), (mq19, .inl (mk20, 100, .inl (fun _ => 0)))] H := hP
  have hD : va_D A [(mo, .inr (12, [.ref mq1, .int 0, .int 0, .ref mq3, .ref mq5, .ref mq7, .ref mq9, .ref mq11, .int 0, .int 0, .int 0, .int 0, .int 0, .int 0, .int 0, .ref mq13, .int 0, .ref mq15, .int 0, .ref mq17, .ref mq19, .int (-1), .int 0, .int 0, .int 0, .int 0, .int 0, .ref mq21, .int 0, .ref mq23, .ref mq25, .ref mq27, .int 0, .int 0, .int 0, .ref mq29, .ref mq31, .ref mq33, .long 0, .ref mq35, .ref mq37, .ref mq39, .ref mq41])), (mq19, .inl (mk20, 100, .inl (fun _ => 0)))] := hD
  obtain rfl : r_3 = (-1) := hw
  refine lv_aload_n hx hb dL_law_904 rfl (lv_at hl 1 rfl) ?_
  refine lv_aload_n hx hb dL_law_905 rfl (lv_at hl 3 rfl) ?_
  refine lv_iload_n hx hb dL_law_906 rfl (lv_at hl 0 rfl) ?_
  refine lv_iconst (v := 1) hx hb dL_law_907 (by decide) ?_
  refine lv_iadd hx hb dL_law_908 ?_
  refine lv_topi (fun y_4 ey_4 => ?_)
  obtain rfl : y_4 = 1 := ey_4.trans (by decide)
  refine va_sld hx hb hX hbl hbA hS (inr_ok rfl) dL_law_909 ?_
  refine W.eq (g2 := F0 m 910 ls [.int z1, .ref mo, .int (-1)]) (by rw [ez1]; rfl) ?_
  refine lv_aload_n hx hb dL_law_910 rfl (lv_at hl 3 rfl) ?_
  refine lv_iload_n hx hb dL_law_911 rfl (lv_at hl 0 rfl) ?_
  refine lv_iconst (v := 2) hx hb dL_law_912 (by decide) ?_
  refine lv_iadd hx hb dL_law_913 ?_
  refine lv_topi (fun y_5 ey_5 => ?_)
  obtain rfl : y_5 = 2 := ey_5.trans (by decide)
  refine va_sld hx hb hX hbl hbA hS (inr_ok rfl) dL_law_914 ?_
  refine W.eq (g2 := F0 m 915 ls [.int z2, .int z1, .ref mo, .int (-1)]) (by rw [ez2]; rfl) ?_
  have hPc := hP.sub (ws' := [(mo, .inr (12, [.ref mq1, .int 0, .int 0, .ref mq3, .ref mq5, .ref mq7, .ref mq9, .ref mq11, .int 0, .int 0, .int 0, .int 0, .int 0, .int 0, .int 0, .ref mq13, .int 0, .ref mq15, .int 0, .ref mq17, .ref mq19, .int (-1), .int 0, .int 0, .int 0, .int 0, .int 0, .ref mq21, .int 0, .ref mq23, .ref mq25, .ref mq27, .int 0, .int 0, .int 0, .ref mq29, .ref mq31, .ref mq33, .long 0, .ref mq35, .ref mq37, .ref mq39, .ref mq41])), (mq19, .inl (mk20, 100, .inl (fun _ => 0)))]) [0, 1] rfl
  have hDc := hD.sub (ws' := [(mo, .inr (12, [.ref mq1, .int 0, .int 0, .ref mq3, .ref mq5, .ref mq7, .ref mq9, .ref mq11, .int 0, .int 0, .int 0, .int 0, .int 0, .int 0, .int 0, .ref mq13, .int 0, .ref mq15, .int 0, .ref mq17, .ref mq19, .int (-1), .int 0, .int 0, .int 0, .int 0, .int 0, .ref mq21, .int 0, .ref mq23, .ref mq25, .ref mq27, .int 0, .int 0, .int 0, .ref mq29, .ref mq31, .ref mq33, .long 0, .ref mq35, .ref mq37, .ref mq39, .ref mq41])), (mq19, .inl (mk20, 100, .inl (fun _ => 0)))]) [0, 1] (by decide) rfl
  have hKc := hK.sub (tys' := [(mk20, .int)]) [0] rfl
  have hFc := va_free (wc := [(mo, .inr (12, [.ref mq1, .int 0, .int 0, .ref mq3, .ref mq5, .ref mq7, .ref mq9, .ref mq11, .int 0, .int 0, .int 0, .int 0, .int 0, .int 0, .int 0, .ref mq13, .int 0, .ref mq15, .int 0, .ref mq17, .ref mq19, .int (-1), .int 0, .int 0, .int 0, .int 0, .int 0, .ref mq21, .int 0, .ref mq23, .ref mq25, .ref mq27, .int 0, .int 0, .int 0, .ref mq29, .ref mq31, .ref mq33, .long 0, .ref mq35, .ref mq37, .ref mq39, .ref mq41])), (mq19, .inl (mk20, 100, .inl (fun _ => 0)))]) hD hS hA [0, 1] rfl
  refine va_calli (va_runV (As := [.int z1, .int z2]) (rest := [.int (-1)]) ⟨hx, hb, hml, hown, hq⟩ (c_M_crumbs l dC dI _ mo mq1 mq3 mq5 mq7 mq9 mq11 mq13 mq15 mq17 mq19 mq21 mq23 mq25 mq27 mq29 mq31 mq33 mq35 mq37 mq39 mq41 mk20 z1 z2 ) (cwV 2 hq (gV qw_1735 qw_1736 qw_1737 qw_131 qw_1738) rfl rfl rfl (by decide +kernel) ⟨Nat.le_of_ble_eq_true rfl, Nat.le_of_ble_eq_true rfl⟩) ⟨fun a U g mk q => by obtain ⟨q0, q1, qP, qK, qD, qE⟩ := q; exact ⟨q0, q1, qP, va_K.moved (u := U) (U := U.calling g mk a) (Vm.Alike.refl U.vm) qK, qD, xE.same rfl qE⟩, va_recv hKc hPc (ci := 12) (q0 := 0) rfl rfl, fun U hU hW => ⟨rfl, by rw [hU], by rw [hU]; exact hPc, va_K.moved hW.alike hKc, hDc.weaken (fun _ _ _ _ => trivial), xE.warm hW hE⟩⟩ rfl rfl hl.1 rfl (lv_room (Nat.le_of_ble_eq_true rfl)) dL_law_915 ⟨Nat.le_of_ble_eq_true rfl, Nat.le_of_ble_eq_true rfl⟩) hS (fun q _ h => hFc q h) hFc (fun r_6 u t H1 locs ht hvm hw hB hz1 hk1 hS => ?_)
  have hP1 : va_P (dC, dI) classes [] H1 := vP_nil
  have hD1 : va_D (va_A [(mo, .inr (12, [.ref mq1, .int 0, .int 0, .ref mq3, .ref mq5, .ref mq7, .ref mq9, .ref mq11, .int 0, .int 0, .int 0, .int 0, .int 0, .int 0, .int 0, .ref mq13, .int 0, .ref mq15, .int 0, .ref mq17, .ref mq19, .int (-1), .int 0, .int 0, .int 0, .int 0, .int 0, .ref mq21, .int 0, .ref mq23, .ref mq25, .ref mq27, .int 0, .int 0, .int 0, .ref mq29, .ref mq31, .ref mq33, .long 0, .ref mq35, .ref mq37, .ref mq39, .ref mq41])), (mq19, .inl (mk20, 100, .inl (fun _ => 0)))] H.size) [] := vD_nil
  obtain ⟨hP, hD⟩ := va_join (wr := []) (w1 := []) hP hD [0, 1] [] rfl rfl (by decide) (by decide) hk1 hFc hP1 hD1
  generalize H1 = H at hP hS ⊢
  have hP : va_P (dC, dI) classes [] H := hP
  have hD : va_D A [] := hD
  obtain rfl : r_6 = (-1) := hw
  refine lv_icmp_eq (tgt := 1210) hx hb dL_law_918 (by decide) (fun _ => ?_) (fun c9 => absurd c9 (by decide))
  exact law_end C0 hAq hS (lv_sub hl [0, 1, 2, 3] rfl)
set_option maxHeartbeats 4000000 in
set_option maxRecDepth 100000 in
/-- loudest, the first call -/
theorem law_27 {p : Program} {l : Launch} {e : Env} {s : State} {m : MethodId} {below : List Frame} {meth : Method} {c : Code} {A : Nat → Prop} {kA vA : Nat → Nat} {dC : Nat → ClassId} {dI : Nat → Nat → Nat} {b : Nat} {xs : Nat → Int32} {xo : Nat} {mo : Nat} {xq1 : Nat} {xq3 : Nat} {xq7 : Nat} {xq12 : Nat} {xq14 : Nat} {xq24 : Nat} {xq34 : Nat} {xq36 : Nat} {xq38 : Nat} {xq48 : Nat} {xq51 : Nat} {xq53 : Nat} {xq55 : Nat} {xq57 : Nat} {xq59 : Nat} {xq16 : Nat} {xq17 : Nat} {xq18 : Nat} {xq19 : Nat} {mq1 : Nat} {mq3 : Nat} {mq5 : Nat} {mq7 : Nat} {mq9 : Nat} {mq11 : Nat} {mq13 : Nat} {mq15 : Nat} {mq17 : Nat} {mq19 : Nat} {mq21 : Nat} {mq23 : Nat} {mq25 : Nat} {mq27 : Nat} {mq29 : Nat} {mq31 : Nat} {mq33 : Nat} {mq35 : Nat} {mq37 : Nat} {mq39 : Nat} {mq41 : Nat} {mk20 : ClassId} (C0 : lw_At p s m meth c b 6 xs) (hA : ∀ q : Nat, s.heap.size ≤ q → A q) (hAq : ∀ q : Nat, A q → s.heap.size ≤ q) (hE : xE s) (hT : xT kA vA A s s.heap) (hK : va_K (dC, dI) classes [(mk20, .int)] s) {H : Heap} {locs : List Loc} (hP : va_P (dC, dI) classes [(xo, .inr (11, [.ref xq1, .int 0, .ref xq3, .ref xq7, .ref xq12, .int 0, .int (-1), .ref xq14, .ref xq24, .ref xq34, .ref xq36, .ref xq38, .ref xq48, .ref xq51, .ref xq53, .ref xq55, .ref xq57, .ref xq59, .int 0])), (xq14, .inr (1, [.int 0, .int 0, .int 0, .ref xq16, .ref xq17, .ref xq18, .ref xq19])), (mo, .inr (12, [.ref mq1, .int 0, .int 0, .ref mq3, .ref mq5, .ref mq7, .ref mq9, .ref mq11, .int 0, .int 0, .int 0, .int 0, .int 0, .int 0, .int 0, .ref mq13, .int 0, .ref mq15, .int 0, .ref mq17, .ref mq19, .int (-1), .int 0, .int 0, .int 0, .int 0, .int 0, .ref mq21, .int 0, .ref mq23, .ref mq25, .ref mq27, .int 0, .int 0, .int 0, .ref mq29, .ref mq31, .ref mq33, .long 0, .ref mq35, .ref mq37, .ref mq39, .ref mq41])), (mq19, .inl (mk20, 100, .inl (fun _ => 0)))] H) (hD : va_D A [(xo, .inr (11, [.ref xq1, .int 0, .ref xq3, .ref xq7, .ref xq12, .int 0, .int (-1), .ref xq14, .ref xq24, .ref xq34, .ref xq36, .ref xq38, .ref xq48, .ref xq51, .ref xq53, .ref xq55, .ref xq57, .ref xq59, .int 0])), (xq14, .inr (1, [.int 0, .int 0, .int 0, .ref xq16, .ref xq17, .ref xq18, .ref xq19])), (mo, .inr (12, [.ref mq1, .int 0, .int 0, .ref mq3, .ref mq5, .ref mq7, .ref mq9, .ref mq11, .int 0, .int 0, .int 0, .int 0, .int 0, .int 0, .int 0, .ref mq13, .int 0, .ref mq15, .int 0, .ref mq17, .ref mq19, .int (-1), .int 0, .int 0, .int 0, .int 0, .int 0, .ref mq21, .int 0, .ref mq23, .ref mq25, .ref mq27, .int 0, .int 0, .int 0, .ref mq29, .ref mq31, .ref mq33, .long 0, .ref mq35, .ref mq37, .ref mq39, .ref mq41])), (mq19, .inl (mk20, 100, .inl (fun _ => 0)))]) (hS : va_S A s.heap H locs) {ls : Array Slot} (hl : lv_has ls 4 [(3, .int 0), (2, .ref mo), (1, .ref xo), (0, .ref b)]) : W p l e room_1 s m #[Value.ref b] below meth c H locs 152 8829 (lw_Z below #[Value.ref b] s) (F0 m 923 ls []) := by
  obtain ⟨hx, hb, hr, hml, hown, hts, hX, hbl, hlocks, hgv⟩ := id C0
  have hown : s.vm.findClass RL = some m.cls := hown
  have hq : ∀ w ∈ wsA, w.before _ s = true := fun w h => hts w (List.mem_filter.mp h).1
  have hbA : ¬ A b := fun h => Nat.not_le.mpr hbl (hAq b h)
  obtain ⟨z1, ez1⟩ : ∃ z : Int32, z = xs 1 := ⟨_, rfl⟩
  obtain ⟨z2, ez2⟩ : ∃ z : Int32, z = xs 2 := ⟨_, rfl⟩
  refine lv_aload_n hx hb dL_law_923 rfl (lv_at hl 2 rfl) ?_
  refine lv_aload_n hx hb dL_law_924 rfl (lv_at hl 3 rfl) ?_
  refine lv_iload_n hx hb dL_law_925 rfl (lv_at hl 0 rfl) ?_
  refine lv_iconst (v := 1) hx hb dL_law_926 (by decide) ?_
  refine lv_iadd hx hb dL_law_927 ?_
  refine lv_topi (fun y_1 ey_1 => ?_)
  obtain rfl : y_1 = 1 := ey_1.trans (by decide)
  refine va_sld hx hb hX hbl hbA hS (inr_ok rfl) dL_law_928 ?_
  refine W.eq (g2 := F0 m 929 ls [.int z1, .ref xo]) (by rw [ez1]; rfl) ?_
  refine lv_aload_n hx hb dL_law_929 rfl (lv_at hl 3 rfl) ?_
  refine lv_iload_n hx hb dL_law_930 rfl (lv_at hl 0 rfl) ?_
  refine lv_iconst (v := 2) hx hb dL_law_931 (by decide) ?_
  refine lv_iadd hx hb dL_law_932 ?_
  refine lv_topi (fun y_2 ey_2 => ?_)
  obtain rfl : y_2 = 2 := ey_2.trans (by decide)
  refine va_sld hx hb hX hbl hbA hS (inr_ok rfl) dL_law_933 ?_
  refine W.eq (g2 := F0 m 934 ls [.int z2, .int z1, .ref xo]) (by rw [ez2]; rfl) ?_
  have hPc := hP.sub (ws' := [(xo, .inr (11, [.ref xq1, .int 0, .ref xq3, .ref xq7, .ref xq12, .int 0, .int (-1), .ref xq14, .ref xq24, .ref xq34, .ref xq36, .ref xq38, .ref xq48, .ref xq51, .ref xq53, .ref xq55, .ref xq57, .ref xq59, .int 0])), (xq14, .inr (1, [.int 0, .int 0, .int 0, .ref xq16, .ref xq17, .ref xq18, .ref xq19]))]) [0, 1] rfl
  have hDc := hD.sub (ws' := [(xo, .inr (11, [.ref xq1, .int 0, .ref xq3, .ref xq7, .ref xq12, .int 0, .int (-1), .ref xq14, .ref xq24, .ref xq34, .ref xq36, .ref xq38, .ref xq48, .ref xq51, .ref xq53, .ref xq55, .ref xq57, .ref xq59, .int 0])), (xq14, .inr (1, [.int 0, .int 0, .int 0, .ref xq16, .ref xq17, .ref xq18, .ref xq19]))]) [0, 1] (by decide) rfl
  have hKc := hK.sub (tys' := []) [] rfl
  have hFc := va_free (wc := [(xo, .inr (11, [.ref xq1, .int 0, .ref xq3, .ref xq7, .ref xq12, .int 0, .int (-1), .ref xq14, .ref xq24, .ref xq34, .ref xq36, .ref xq38, .ref xq48, .ref xq51, .ref xq53, .ref xq55, .ref xq57, .ref xq59, .int 0])), (xq14, .inr (1, [.int 0, .int 0, .int 0, .ref xq16, .ref xq17, .ref xq18, .ref xq19]))]) hD hS hA [0, 1] rfl
  refine va_calli (va_runV (As := [.int z1, .int z2]) (rest := []) ⟨hx, hb, hml, hown, hq⟩ (c_SB_loudest l dC dI _ xo xq1 xq3 xq7 xq12 xq14 xq24 xq34 xq36 xq38 xq48 xq51 xq53 xq55 xq57 xq59 xq16 xq17 xq18 xq19 z1 z2 ) (cwV 2 hq (gV qw_1076 qw_1077 qw_1078 qw_119 qw_1079) rfl rfl rfl (by decide +kernel) ⟨Nat.le_of_ble_eq_true rfl, Nat.le_of_ble_eq_true rfl⟩) ⟨fun a U g mk q => by obtain ⟨q0, q1, qP, qK, qD, qE⟩ := q; exact ⟨q0, q1, qP, va_K.moved (u := U) (U := U.calling g mk a) (Vm.Alike.refl U.vm) qK, qD, xE.same rfl qE⟩, va_recv hKc hPc (ci := 11) (q0 := 0) rfl rfl, fun U hU hW => ⟨rfl, by rw [hU], by rw [hU]; exact hPc, va_K.moved hW.alike hKc, hDc.weaken (fun _ _ _ _ => trivial), xE.warm hW hE⟩⟩ rfl rfl hl.1 rfl (lv_room (Nat.le_of_ble_eq_true rfl)) dL_law_934 ⟨Nat.le_of_ble_eq_true rfl, Nat.le_of_ble_eq_true rfl⟩) hS (fun q _ h => hFc q h) hFc (fun r_3 u t H1 locs ht hvm hw hB hz1 hk1 hS => ?_)
  have hP1 : va_P (dC, dI) classes [] H1 := vP_nil
  have hD1 : va_D (va_A [(xo, .inr (11, [.ref xq1, .int 0, .ref xq3, .ref xq7, .ref xq12, .int 0, .int (-1), .ref xq14, .ref xq24, .ref xq34, .ref xq36, .ref xq38, .ref xq48, .ref xq51, .ref xq53, .ref xq55, .ref xq57, .ref xq59, .int 0])), (xq14, .inr (1, [.int 0, .int 0, .int 0, .ref xq16, .ref xq17, .ref xq18, .ref xq19]))] H.size) [] := vD_nil
  obtain ⟨hP, hD⟩ := va_join (wr := [(mo, .inr (12, [.ref mq1, .int 0, .int 0, .ref mq3, .ref mq5, .ref mq7, .ref mq9, .ref mq11, .int 0, .int 0, .int 0, .int 0, .int 0, .int 0, .int 0, .ref mq13, .int 0, .ref mq15, .int 0, .ref mq17, .ref mq19, .int (-1), .int 0, .int 0, .int 0, .int 0, .int 0, .ref mq21, .int 0, .ref mq23, .ref mq25, .ref mq27, .int 0, .int 0, .int 0, .ref mq29, .ref mq31, .ref mq33, .long 0, .ref mq35, .ref mq37, .ref mq39, .ref mq41])), (mq19, .inl (mk20, 100, .inl (fun _ => 0)))]) (w1 := []) hP hD [0, 1] [2, 3] rfl rfl (by decide) (by decide) hk1 hFc hP1 hD1
  generalize H1 = H at hP hS ⊢
  have hP : va_P (dC, dI) classes [(mo, .inr (12, [.ref mq1, .int 0, .int 0, .ref mq3, .ref mq5, .ref mq7, .ref mq9, .ref mq11, .int 0, .int 0, .int 0, .int 0, .int 0, .int 0, .int 0, .ref mq13, .int 0, .ref mq15, .int 0, .ref mq17, .ref mq19, .int (-1), .int 0, .int 0, .int 0, .int 0, .int 0, .ref mq21, .int 0, .ref mq23, .ref mq25, .ref mq27, .int 0, .int 0, .int 0, .ref mq29, .ref mq31, .ref mq33, .long 0, .ref mq35, .ref mq37, .ref mq39, .ref mq41])), (mq19, .inl (mk20, 100, .inl (fun _ => 0)))] H := hP
  have hD : va_D A [(mo, .inr (12, [.ref mq1, .int 0, .int 0, .ref mq3, .ref mq5, .ref mq7, .ref mq9, .ref mq11, .int 0, .int 0, .int 0, .int 0, .int 0, .int 0, .int 0, .ref mq13, .int 0, .ref mq15, .int 0, .ref mq17, .ref mq19, .int (-1), .int 0, .int 0, .int 0, .int 0, .int 0, .ref mq21, .int 0, .ref mq23, .ref mq25, .ref mq27, .int 0, .int 0, .int 0, .ref mq29, .ref mq31, .ref mq33, .long 0, .ref mq35, .ref mq37, .ref mq39, .ref mq41])), (mq19, .inl (mk20, 100, .inl (fun _ => 0)))] := hD
  obtain rfl : r_3 = (-1) := hw
  refine lv_aload_n hx hb dL_law_937 rfl (lv_at hl 1 rfl) ?_
  refine lv_aload_n hx hb dL_law_938 rfl (lv_at hl 3 rfl) ?_
  refine lv_iload_n hx hb dL_law_939 rfl (lv_at hl 0 rfl) ?_
  refine lv_iconst (v := 1) hx hb dL_law_940 (by decide) ?_
  refine lv_iadd hx hb dL_law_941 ?_
  refine lv_topi (fun y_4 ey_4 => ?_)
  obtain rfl : y_4 = 1 := ey_4.trans (by decide)
  refine va_sld hx hb hX hbl hbA hS (inr_ok rfl) dL_law_942 ?_
  refine W.eq (g2 := F0 m 943 ls [.int z1, .ref mo, .int (-1)]) (by rw [ez1]; rfl) ?_
  refine lv_aload_n hx hb dL_law_943 rfl (lv_at hl 3 rfl) ?_
  refine lv_iload_n hx hb dL_law_944 rfl (lv_at hl 0 rfl) ?_
  refine lv_iconst (v := 2) hx hb dL_law_945 (by decide) ?_
  refine lv_iadd hx hb dL_law_946 ?_
  refine lv_topi (fun y_5 ey_5 => ?_)
  obtain rfl : y_5 = 2 := ey_5.trans (by decide)
  refine va_sld hx hb hX hbl hbA hS (inr_ok rfl) dL_law_947 ?_
  refine W.eq (g2 := F0 m 948 ls [.int z2, .int z1, .ref mo, .int (-1)]) (by rw [ez2]; rfl) ?_
  have hPc := hP.sub (ws' := [(mo, .inr (12, [.ref mq1, .int 0, .int 0, .ref mq3, .ref mq5, .ref mq7, .ref mq9, .ref mq11, .int 0, .int 0, .int 0, .int 0, .int 0, .int 0, .int 0, .ref mq13, .int 0, .ref mq15, .int 0, .ref mq17, .ref mq19, .int (-1), .int 0, .int 0, .int 0, .int 0, .int 0, .ref mq21, .int 0, .ref mq23, .ref mq25, .ref mq27, .int 0, .int 0, .int 0, .ref mq29, .ref mq31, .ref mq33, .long 0, .ref mq35, .ref mq37, .ref mq39, .ref mq41])), (mq19, .inl (mk20, 100, .inl (fun _ => 0)))]) [0, 1] rfl
  have hDc := hD.sub (ws' := [(mo, .inr (12, [.ref mq1, .int 0, .int 0, .ref mq3, .ref mq5, .ref mq7, .ref mq9, .ref mq11, .int 0, .int 0, .int 0, .int 0, .int 0, .int 0, .int 0, .ref mq13, .int 0, .ref mq15, .int 0, .ref mq17, .ref mq19, .int (-1), .int 0, .int 0, .int 0, .int 0, .int 0, .ref mq21, .int 0, .ref mq23, .ref mq25, .ref mq27, .int 0, .int 0, .int 0, .ref mq29, .ref mq31, .ref mq33, .long 0, .ref mq35, .ref mq37, .ref mq39, .ref mq41])), (mq19, .inl (mk20, 100, .inl (fun _ => 0)))]) [0, 1] (by decide) rfl
  have hKc := hK.sub (tys' := [(mk20, .int)]) [0] rfl
  have hFc := va_free (wc := [(mo, .inr (12, [.ref mq1, .int 0, .int 0, .ref mq3, .ref mq5, .ref mq7, .ref mq9, .ref mq11, .int 0, .int 0, .int 0, .int 0, .int 0, .int 0, .int 0, .ref mq13, .int 0, .ref mq15, .int 0, .ref mq17, .ref mq19, .int (-1), .int 0, .int 0, .int 0, .int 0, .int 0, .ref mq21, .int 0, .ref mq23, .ref mq25, .ref mq27, .int 0, .int 0, .int 0, .ref mq29, .ref mq31, .ref mq33, .long 0, .ref mq35, .ref mq37, .ref mq39, .ref mq41])), (mq19, .inl (mk20, 100, .inl (fun _ => 0)))]) hD hS hA [0, 1] rfl
  refine va_calli (va_runV (As := [.int z1, .int z2]) (rest := [.int (-1)]) ⟨hx, hb, hml, hown, hq⟩ (c_M_loudest l dC dI _ mo mq1 mq3 mq5 mq7 mq9 mq11 mq13 mq15 mq17 mq19 mq21 mq23 mq25 mq27 mq29 mq31 mq33 mq35 mq37 mq39 mq41 mk20 z1 z2 ) (cwV 2 hq (gV qw_1740 qw_1741 qw_1742 qw_131 qw_1743) rfl rfl rfl (by decide +kernel) ⟨Nat.le_of_ble_eq_true rfl, Nat.le_of_ble_eq_true rfl⟩) ⟨fun a U g mk q => by obtain ⟨q0, q1, qP, qK, qD, qE⟩ := q; exact ⟨q0, q1, qP, va_K.moved (u := U) (U := U.calling g mk a) (Vm.Alike.refl U.vm) qK, qD, xE.same rfl qE⟩, va_recv hKc hPc (ci := 12) (q0 := 0) rfl rfl, fun U hU hW => ⟨rfl, by rw [hU], by rw [hU]; exact hPc, va_K.moved hW.alike hKc, hDc.weaken (fun _ _ _ _ => trivial), xE.warm hW hE⟩⟩ rfl rfl hl.1 rfl (lv_room (Nat.le_of_ble_eq_true rfl)) dL_law_948 ⟨Nat.le_of_ble_eq_true rfl, Nat.le_of_ble_eq_true rfl⟩) hS (fun q _ h => hFc q h) hFc (fun r_6 u t H1 locs ht hvm hw hB hz1 hk1 hS => ?_)
  have hP1 : va_P (dC, dI) classes [] H1 := vP_nil
  have hD1 : va_D (va_A [(mo, .inr (12, [.ref mq1, .int 0, .int 0, .ref mq3, .ref mq5, .ref mq7, .ref mq9, .ref mq11, .int 0, .int 0, .int 0, .int 0, .int 0, .int 0, .int 0, .ref mq13, .int 0, .ref mq15, .int 0, .ref mq17, .ref mq19, .int (-1), .int 0, .int 0, .int 0, .int 0, .int 0, .ref mq21, .int 0, .ref mq23, .ref mq25, .ref mq27, .int 0, .int 0, .int 0, .ref mq29, .ref mq31, .ref mq33, .long 0, .ref mq35, .ref mq37, .ref mq39, .ref mq41])), (mq19, .inl (mk20, 100, .inl (fun _ => 0)))] H.size) [] := vD_nil
  obtain ⟨hP, hD⟩ := va_join (wr := []) (w1 := []) hP hD [0, 1] [] rfl rfl (by decide) (by decide) hk1 hFc hP1 hD1
  generalize H1 = H at hP hS ⊢
  have hP : va_P (dC, dI) classes [] H := hP
  have hD : va_D A [] := hD
  obtain rfl : r_6 = (-1) := hw
  refine lv_icmp_eq (tgt := 1210) hx hb dL_law_951 (by decide) (fun _ => ?_) (fun c9 => absurd c9 (by decide))
  exact law_end C0 hAq hS (lv_sub hl [0, 1, 2, 3] rfl)
set_option maxHeartbeats 4000000 in
set_option maxRecDepth 100000 in
/-- note, the first call -/
theorem law_28 {p : Program} {l : Launch} {e : Env} {s : State} {m : MethodId} {below : List Frame} {meth : Method} {c : Code} {A : Nat → Prop} {kA vA : Nat → Nat} {dC : Nat → ClassId} {dI : Nat → Nat → Nat} {b : Nat} {xs : Nat → Int32} {xo : Nat} {mo : Nat} {xq1 : Nat} {xq3 : Nat} {xq7 : Nat} {xq12 : Nat} {xq14 : Nat} {xq24 : Nat} {xq34 : Nat} {xq36 : Nat} {xq38 : Nat} {xq48 : Nat} {xq51 : Nat} {xq53 : Nat} {xq55 : Nat} {xq57 : Nat} {xq59 : Nat} {xq16 : Nat} {xq17 : Nat} {xq18 : Nat} {xq19 : Nat} {xq40 : Nat} {xq41 : Nat} {xq42 : Nat} {xq43 : Nat} {mq1 : Nat} {mq3 : Nat} {mq5 : Nat} {mq7 : Nat} {mq9 : Nat} {mq11 : Nat} {mq13 : Nat} {mq15 : Nat} {mq17 : Nat} {mq19 : Nat} {mq21 : Nat} {mq23 : Nat} {mq25 : Nat} {mq27 : Nat} {mq29 : Nat} {mq31 : Nat} {mq33 : Nat} {mq35 : Nat} {mq37 : Nat} {mq39 : Nat} {mq41 : Nat} {mk20 : ClassId} (C0 : lw_At p s m meth c b 6 xs) (hA : ∀ q : Nat, s.heap.size ≤ q → A q) (hAq : ∀ q : Nat, A q → s.heap.size ≤ q) (hE : xE s) (hT : xT kA vA A s s.heap) (hK : va_K (dC, dI) classes [(mk20, .int)] s) {H : Heap} {locs : List Loc} (hP : va_P (dC, dI) classes [(xo, .inr (11, [.ref xq1, .int 0, .ref xq3, .ref xq7, .ref xq12, .int 0, .int (-1), .ref xq14, .ref xq24, .ref xq34, .ref xq36, .ref xq38, .ref xq48, .ref xq51, .ref xq53, .ref xq55, .ref xq57, .ref xq59, .int 0])), (xq14, .inr (1, [.int 0, .int 0, .int 0, .ref xq16, .ref xq17, .ref xq18, .ref xq19])), (xq38, .inr (5, [.int 0, .ref xq40, .ref xq41, .ref xq42, .ref xq43])), (mo, .inr (12, [.ref mq1, .int 0, .int 0, .ref mq3, .ref mq5, .ref mq7, .ref mq9, .ref mq11, .int 0, .int 0, .int 0, .int 0, .int 0, .int 0, .int 0, .ref mq13, .int 0, .ref mq15, .int 0, .ref mq17, .ref mq19, .int (-1), .int 0, .int 0, .int 0, .int 0, .int 0, .ref mq21, .int 0, .ref mq23, .ref mq25, .ref mq27, .int 0, .int 0, .int 0, .ref mq29, .ref mq31, .ref mq33, .long 0, .ref mq35, .ref mq37, .ref mq39, .ref mq41])), (mq19, .inl (mk20, 100, .inl (fun _ => 0)))] H) (hD : va_D A [(xo, .inr (11, [.ref xq1, .int 0, .ref xq3, .ref xq7, .ref xq12, .int 0, .int (-1), .ref xq14, .ref xq24, .ref xq34, .ref xq36, .ref xq38, .ref xq48, .ref xq51, .ref xq53, .ref xq55, .ref xq57, .ref xq59, .int 0])), (xq14, .inr (1, [.int 0, .int 0, .int 0, .ref xq16, .ref xq17, .ref xq18, .ref xq19])), (xq38, .inr (5, [.int 0, .ref xq40, .ref xq41, .ref xq42, .ref xq43])), (mo, .inr (12, [.ref mq1, .int 0, .int 0, .ref mq3, .ref mq5, .ref mq7, .ref mq9, .ref mq11, .int 0, .int 0, .int 0, .int 0, .int 0, .int 0, .int 0, .ref mq13, .int 0, .ref mq15, .int 0, .ref mq17, .ref mq19, .int (-1), .int 0, .int 0, .int 0, .int 0, .int 0, .ref mq21, .int 0, .ref mq23, .ref mq25, .ref mq27, .int 0, .int 0, .int 0, .ref mq29, .ref mq31, .ref mq33, .long 0, .ref mq35, .ref mq37, .ref mq39, .ref mq41])), (mq19, .inl (mk20, 100, .inl (fun _ => 0)))]) (hS : va_S A s.heap H locs) {ls : Array Slot} (hl : lv_has ls 4 [(3, .int 0), (2, .ref mo), (1, .ref xo), (0, .ref b)]) : W p l e room_1 s m #[Value.ref b] below meth c H locs 152 8829 (lw_Z below #[Value.ref b] s) (F0 m 956 ls []) := by
  obtain ⟨hx, hb, hr, hml, hown, hts, hX, hbl, hlocks, hgv⟩ := id C0
  have hown : s.vm.findClass RL = some m.cls := hown
  have hq : ∀ w ∈ wsA, w.before _ s = true := fun w h => hts w (List.mem_filter.mp h).1
  have hbA : ¬ A b := fun h => Nat.not_le.mpr hbl (hAq b h)
  obtain ⟨z1, ez1⟩ : ∃ z : Int32, z = xs 1 := ⟨_, rfl⟩
  obtain ⟨z2, ez2⟩ : ∃ z : Int32, z = xs 2 := ⟨_, rfl⟩
  obtain ⟨z3, ez3⟩ : ∃ z : Int32, z = xs 3 := ⟨_, rfl⟩
  obtain ⟨z4, ez4⟩ : ∃ z : Int32, z = xs 4 := ⟨_, rfl⟩
  refine lv_aload_n hx hb dL_law_956 rfl (lv_at hl 2 rfl) ?_
  refine lv_aload_n hx hb dL_law_957 rfl (lv_at hl 3 rfl) ?_
  refine lv_iload_n hx hb dL_law_958 rfl (lv_at hl 0 rfl) ?_
  refine lv_iconst (v := 1) hx hb dL_law_959 (by decide) ?_
  refine lv_iadd hx hb dL_law_960 ?_
  refine lv_topi (fun y_1 ey_1 => ?_)
  obtain rfl : y_1 = 1 := ey_1.trans (by decide)
  refine va_sld hx hb hX hbl hbA hS (inr_ok rfl) dL_law_961 ?_
  refine W.eq (g2 := F0 m 962 ls [.int z1, .ref xo]) (by rw [ez1]; rfl) ?_
  refine lv_aload_n hx hb dL_law_962 rfl (lv_at hl 3 rfl) ?_
  refine lv_iload_n hx hb dL_law_963 rfl (lv_at hl 0 rfl) ?_
  refine lv_iconst (v := 2) hx hb dL_law_964 (by decide) ?_
  refine lv_iadd hx hb dL_law_965 ?_
  refine lv_topi (fun y_2 ey_2 => ?_)
  obtain rfl : y_2 = 2 := ey_2.trans (by decide)
  refine va_sld hx hb hX hbl hbA hS (inr_ok rfl) dL_law_966 ?_
  refine W.eq (g2 := F0 m 967 ls [.int z2, .int z1, .ref xo]) (by rw [ez2]; rfl) ?_
  refine lv_aload_n hx hb dL_law_967 rfl (lv_at hl 3 rfl) ?_
  refine lv_iload_n hx hb dL_law_968 rfl (lv_at hl 0 rfl) ?_
  refine lv_iconst (v := 3) hx hb dL_law_969 (by decide) ?_
  refine lv_iadd hx hb dL_law_970 ?_
  refine lv_topi (fun y_3 ey_3 => ?_)
  obtain rfl : y_3 = 3 := ey_3.trans (by decide)
  refine va_sld hx hb hX hbl hbA hS (inr_ok rfl) dL_law_971 ?_
  refine W.eq (g2 := F0 m 972 ls [.int z3, .int z2, .int z1, .ref xo]) (by rw [ez3]; rfl) ?_
  refine lv_aload_n hx hb dL_law_972 rfl (lv_at hl 3 rfl) ?_
  refine lv_iload_n hx hb dL_law_973 rfl (lv_at hl 0 rfl) ?_
  refine lv_iconst (v := 4) hx hb dL_law_974 (by decide) ?_
  refine lv_iadd hx hb dL_law_975 ?_
  refine lv_topi (fun y_4 ey_4 => ?_)
  obtain rfl : y_4 = 4 := ey_4.trans (by decide)
  refine va_sld hx hb hX hbl hbA hS (inr_ok rfl) dL_law_976 ?_
  refine W.eq (g2 := F0 m 977 ls [.int z4, .int z3, .int z2, .int z1, .ref xo]) (by rw [ez4]; rfl) ?_
  have hPc := hP.sub (ws' := [(xo, .inr (11, [.ref xq1, .int 0, .ref xq3, .ref xq7, .ref xq12, .int 0, .int (-1), .ref xq14, .ref xq24, .ref xq34, .ref xq36, .ref xq38, .ref xq48, .ref xq51, .ref xq53, .ref xq55, .ref xq57, .ref xq59, .int 0])), (xq14, .inr (1, [.int 0, .int 0, .int 0, .ref xq16, .ref xq17, .ref xq18, .ref xq19])), (xq38, .inr (5, [.int 0, .ref xq40, .ref xq41, .ref xq42, .ref xq43]))]) [0, 1, 2] rfl
  have hDc := hD.sub (ws' := [(xo, .inr (11, [.ref xq1, .int 0, .ref xq3, .ref xq7, .ref xq12, .int 0, .int (-1), .ref xq14, .ref xq24, .ref xq34, .ref xq36, .ref xq38, .ref xq48, .ref xq51, .ref xq53, .ref xq55, .ref xq57, .ref xq59, .int 0])), (xq14, .inr (1, [.int 0, .int 0, .int 0, .ref xq16, .ref xq17, .ref xq18, .ref xq19])), (xq38, .inr (5, [.int 0, .ref xq40, .ref xq41, .ref xq42, .ref xq43]))]) [0, 1, 2] (by decide) rfl
  have hKc := hK.sub (tys' := []) [] rfl
  have hFc := va_free (wc := [(xo, .inr (11, [.ref xq1, .int 0, .ref xq3, .ref xq7, .ref xq12, .int 0, .int (-1), .ref xq14, .ref xq24, .ref xq34, .ref xq36, .ref xq38, .ref xq48, .ref xq51, .ref xq53, .ref xq55, .ref xq57, .ref xq59, .int 0])), (xq14, .inr (1, [.int 0, .int 0, .int 0, .ref xq16, .ref xq17, .ref xq18, .ref xq19])), (xq38, .inr (5, [.int 0, .ref xq40, .ref xq41, .ref xq42, .ref xq43]))]) hD hS hA [0, 1, 2] rfl
  refine va_calli (va_runV (As := [.int z1, .int z2, .int z3, .int z4]) (rest := []) ⟨hx, hb, hml, hown, hq⟩ (c_SB_note l dC dI _ xo xq1 xq3 xq7 xq12 xq14 xq24 xq34 xq36 xq38 xq48 xq51 xq53 xq55 xq57 xq59 xq16 xq17 xq18 xq19 xq40 xq41 xq42 xq43 z1 z2 z3 z4 ) (cwV 4 hq (gV qw_1080 qw_1081 qw_1082 qw_119 qw_1083) rfl rfl rfl (by decide +kernel) ⟨Nat.le_of_ble_eq_true rfl, Nat.le_of_ble_eq_true rfl⟩) ⟨fun a U g mk q => by obtain ⟨q0, q1, qP, qK, qD, qE⟩ := q; exact ⟨q0, q1, qP, va_K.moved (u := U) (U := U.calling g mk a) (Vm.Alike.refl U.vm) qK, qD, xE.same rfl qE⟩, va_recv hKc hPc (ci := 11) (q0 := 0) rfl rfl, fun U hU hW => ⟨rfl, by rw [hU], by rw [hU]; exact hPc, va_K.moved hW.alike hKc, hDc.weaken (fun _ _ _ _ => trivial), xE.warm hW hE⟩⟩ rfl rfl hl.1 rfl (lv_room (Nat.le_of_ble_eq_true rfl)) dL_law_977 ⟨Nat.le_of_ble_eq_true rfl, Nat.le_of_ble_eq_true rfl⟩) hS (fun q _ h => hFc q h) hFc (fun r_5 u t H1 locs ht hvm hw hB hz1 hk1 hS => ?_)
  have hP1 : va_P (dC, dI) classes [] H1 := vP_nil
  have hD1 : va_D (va_A [(xo, .inr (11, [.ref xq1, .int 0, .ref xq3, .ref xq7, .ref xq12, .int 0, .int (-1), .ref xq14, .ref xq24, .ref xq34, .ref xq36, .ref xq38, .ref xq48, .ref xq51, .ref xq53, .ref xq55, .ref xq57, .ref xq59, .int 0])), (xq14, .inr (1, [.int 0, .int 0, .int 0, .ref xq16, .ref xq17, .ref xq18, .ref xq19])), (xq38, .inr (5, [.int 0, .ref xq40, .ref xq41, .ref xq42, .ref xq43]))] H.size) [] := vD_nil
  obtain ⟨hP, hD⟩ := va_join (wr := [(mo, .inr (12, [.ref mq1, .int 0, .int 0, .ref mq3, .ref mq5, .ref mq7, .ref mq9, .ref mq11, .int 0, .int 0, .int 0, .int 0, .int 0, .int 0, .int 0, .ref mq13, .int 0, .ref mq15, .int 0, .ref mq17, .ref mq19, .int (-1), .int 0, .int 0, .int 0, .int 0, .int 0, .ref mq21, .int 0, .ref mq23, .ref mq25, .ref mq27, .int 0, .int 0, .int 0, .ref mq29, .ref mq31, .ref mq33, .long 0, .ref mq35, .ref mq37, .ref mq39, .ref mq41])), (mq19, .inl (mk20, 100, .inl (fun _ => 0)))]) (w1 := []) hP hD [0, 1, 2] [3, 4] rfl rfl (by decide) (by decide) hk1 hFc hP1 hD1
  generalize H1 = H at hP hS ⊢
  have hP : va_P (dC, dI) classes [(mo, .inr (12, [.ref mq1, .int 0, .int 0, .ref mq3, .ref mq5, .ref mq7, .ref mq9, .ref mq11, .int 0, .int 0, .int 0, .int 0, .int 0, .int 0, .int 0, .ref mq13, .int 0, .ref mq15, .int 0, .ref mq17, .ref mq19, .int (-1), .int 0, .int 0, .int 0, .int 0, .int 0, .ref mq21, .int 0, .ref mq23, .ref mq25, .ref mq27, .int 0, .int 0, .int 0, .ref mq29, .ref mq31, .ref mq33, .long 0, .ref mq35, .ref mq37, .ref mq39, .ref mq41])), (mq19, .inl (mk20, 100, .inl (fun _ => 0)))] H := hP
  have hD : va_D A [(mo, .inr (12, [.ref mq1, .int 0, .int 0, .ref mq3, .ref mq5, .ref mq7, .ref mq9, .ref mq11, .int 0, .int 0, .int 0, .int 0, .int 0, .int 0, .int 0, .ref mq13, .int 0, .ref mq15, .int 0, .ref mq17, .ref mq19, .int (-1), .int 0, .int 0, .int 0, .int 0, .int 0, .ref mq21, .int 0, .ref mq23, .ref mq25, .ref mq27, .int 0, .int 0, .int 0, .ref mq29, .ref mq31, .ref mq33, .long 0, .ref mq35, .ref mq37, .ref mq39, .ref mq41])), (mq19, .inl (mk20, 100, .inl (fun _ => 0)))] := hD
  have hr_5 := hw
  refine lv_aload_n hx hb dL_law_980 rfl (lv_at hl 1 rfl) ?_
  refine lv_aload_n hx hb dL_law_981 rfl (lv_at hl 3 rfl) ?_
  refine lv_iload_n hx hb dL_law_982 rfl (lv_at hl 0 rfl) ?_
  refine lv_iconst (v := 1) hx hb dL_law_983 (by decide) ?_
  refine lv_iadd hx hb dL_law_984 ?_
  refine lv_topi (fun y_6 ey_6 => ?_)
  obtain rfl : y_6 = 1 := ey_6.trans (by decide)
  refine va_sld hx hb hX hbl hbA hS (inr_ok rfl) dL_law_985 ?_
  refine W.eq (g2 := F0 m 986 ls [.int z1, .ref mo, .int r_5]) (by rw [ez1]; rfl) ?_
  refine lv_aload_n hx hb dL_law_986 rfl (lv_at hl 3 rfl) ?_
  refine lv_iload_n hx hb dL_law_987 rfl (lv_at hl 0 rfl) ?_
  refine lv_iconst (v := 2) hx hb dL_law_988 (by decide) ?_
  refine lv_iadd hx hb dL_law_989 ?_
  refine lv_topi (fun y_7 ey_7 => ?_)
  obtain rfl : y_7 = 2 := ey_7.trans (by decide)
  refine va_sld hx hb hX hbl hbA hS (inr_ok rfl) dL_law_990 ?_
  refine W.eq (g2 := F0 m 991 ls [.int z2, .int z1, .ref mo, .int r_5]) (by rw [ez2]; rfl) ?_
  refine lv_aload_n hx hb dL_law_991 rfl (lv_at hl 3 rfl) ?_
  refine lv_iload_n hx hb dL_law_992 rfl (lv_at hl 0 rfl) ?_
  refine lv_iconst (v := 3) hx hb dL_law_993 (by decide) ?_
  refine lv_iadd hx hb dL_law_994 ?_
  refine lv_topi (fun y_8 ey_8 => ?_)
  obtain rfl : y_8 = 3 := ey_8.trans (by decide)
  refine va_sld hx hb hX hbl hbA hS (inr_ok rfl) dL_law_995 ?_
  refine W.eq (g2 := F0 m 996 ls [.int z3, .int z2, .int z1, .ref mo, .int r_5]) (by rw [ez3]; rfl) ?_
  refine lv_aload_n hx hb dL_law_996 rfl (lv_at hl 3 rfl) ?_
  refine lv_iload_n hx hb dL_law_997 rfl (lv_at hl 0 rfl) ?_
  refine lv_iconst (v := 4) hx hb dL_law_998 (by decide) ?_
  refine lv_iadd hx hb dL_law_999 ?_
  refine lv_topi (fun y_9 ey_9 => ?_)
  obtain rfl : y_9 = 4 := ey_9.trans (by decide)
  refine va_sld hx hb hX hbl hbA hS (inr_ok rfl) dL_law_1000 ?_
  refine W.eq (g2 := F0 m 1001 ls [.int z4, .int z3, .int z2, .int z1, .ref mo, .int r_5]) (by rw [ez4]; rfl) ?_
  have hPc := hP.sub (ws' := [(mo, .inr (12, [.ref mq1, .int 0, .int 0, .ref mq3, .ref mq5, .ref mq7, .ref mq9, .ref mq11, .int 0, .int 0, .int 0, .int 0, .int 0, .int 0, .int 0, .ref mq13, .int 0, .ref mq15, .int 0, .ref mq17, .ref mq19, .int (-1), .int 0, .int 0, .int 0, .int 0, .int 0, .ref mq21, .int 0, .ref mq23, .ref mq25, .ref mq27, .int 0, .int 0, .int 0, .ref mq29, .ref mq31, .ref mq33, .long 0, .ref mq35, .ref mq37, .ref mq39, .ref mq41])), (mq19, .inl (mk20, 100, .inl (fun _ => 0)))]) [0, 1] rfl
  have hDc := hD.sub (ws' := [(mo, .inr (12, [.ref mq1, .int 0, .int 0, .ref mq3, .ref mq5, .ref mq7, .ref mq9, .ref mq11, .int 0, .int 0, .int 0, .int 0, .int 0, .int 0, .int 0, .ref mq13, .int 0, .ref mq15, .int 0, .ref mq17, .ref mq19, .int (-1), .int 0, .int 0, .int 0, .int 0, .int 0, .ref mq21, .int 0, .ref mq23, .ref mq25, .ref mq27, .int 0, .int 0, .int 0, .ref mq29, .ref mq31, .ref mq33, .long 0, .ref mq35, .ref mq37, .ref mq39, .ref mq41])), (mq19, .inl (mk20, 100, .inl (fun _ => 0)))]) [0, 1] (by decide) rfl
  have hKc := hK.sub (tys' := [(mk20, .int)]) [0] rfl
  have hFc := va_free (wc := [(mo, .inr (12, [.ref mq1, .int 0, .int 0, .ref mq3, .ref mq5, .ref mq7, .ref mq9, .ref mq11, .int 0, .int 0, .int 0, .int 0, .int 0, .int 0, .int 0, .ref mq13, .int 0, .ref mq15, .int 0, .ref mq17, .ref mq19, .int (-1), .int 0, .int 0, .int 0, .int 0, .int 0, .ref mq21, .int 0, .ref mq23, .ref mq25, .ref mq27, .int 0, .int 0, .int 0, .ref mq29, .ref mq31, .ref mq33, .long 0, .ref mq35, .ref mq37, .ref mq39, .ref mq41])), (mq19, .inl (mk20, 100, .inl (fun _ => 0)))]) hD hS hA [0, 1] rfl
  refine va_calli (va_runV (As := [.int z1, .int z2, .int z3, .int z4]) (rest := [.int r_5]) ⟨hx, hb, hml, hown, hq⟩ (c_M_note l dC dI _ mo mq1 mq3 mq5 mq7 mq9 mq11 mq13 mq15 mq17 mq19 mq21 mq23 mq25 mq27 mq29 mq31 mq33 mq35 mq37 mq39 mq41 mk20 z1 z2 z3 z4 ) (cwV 4 hq (gV qw_1744 qw_1745 qw_1746 qw_131 qw_1747) rfl rfl rfl (by decide +kernel) ⟨Nat.le_of_ble_eq_true rfl, Nat.le_of_ble_eq_true rfl⟩) ⟨fun a U g mk q => by obtain ⟨q0, q1, qP, qK, qD, qE⟩ := q; exact ⟨q0, q1, qP, va_K.moved (u := U) (U := U.calling g mk a) (Vm.Alike.refl U.vm) qK, qD, xE.same rfl qE⟩, va_recv hKc hPc (ci := 12) (q0 := 0) rfl rfl, fun U hU hW => ⟨rfl, by rw [hU], by rw [hU]; exact hPc, va_K.moved hW.alike hKc, hDc.weaken (fun _ _ _ _ => trivial), xE.warm hW hE⟩⟩ rfl rfl hl.1 rfl (lv_room (Nat.le_of_ble_eq_true rfl)) dL_law_1001 ⟨Nat.le_of_ble_eq_true rfl, Nat.le_of_ble_eq_true rfl⟩) hS (fun q _ h => hFc q h) hFc (fun r_10 u t H1 locs ht hvm hw hB hz1 hk1 hS => ?_)
  have hP1 : va_P (dC, dI) classes [] H1 := vP_nil
  have hD1 : va_D (va_A [(mo, .inr (12, [.ref mq1, .int 0, .int 0, .ref mq3, .ref mq5, .ref mq7, .ref mq9, .ref mq11, .int 0, .int 0, .int 0, .int 0, .int 0, .int 0, .int 0, .ref mq13, .int 0, .ref mq15, .int 0, .ref mq17, .ref mq19, .int (-1), .int 0, .int 0, .int 0, .int 0, .int 0, .ref mq21, .int 0, .ref mq23, .ref mq25, .ref mq27, .int 0, .int 0, .int 0, .ref mq29, .ref mq31, .ref mq33, .long 0, .ref mq35, .ref mq37, .ref mq39, .ref mq41])), (mq19, .inl (mk20, 100, .inl (fun _ => 0)))] H.size) [] := vD_nil
  obtain ⟨hP, hD⟩ := va_join (wr := []) (w1 := []) hP hD [0, 1] [] rfl rfl (by decide) (by decide) hk1 hFc hP1 hD1
  generalize H1 = H at hP hS ⊢
  have hP : va_P (dC, dI) classes [] H := hP
  have hD : va_D A [] := hD
  have hr_10 := hw
  refine lv_icmp_eq (tgt := 1210) hx hb dL_law_1004 (by decide) (fun _ => ?_) (fun c9 => absurd (eqP hr_5 hr_10) c9)
  exact law_end C0 hAq hS (lv_sub hl [0, 1, 2, 3] rfl)
set_option maxHeartbeats 4000000 in
set_option maxRecDepth 100000 in
/-- ruled, the first call -/
theorem law_29 {p : Program} {l : Launch} {e : Env} {s : State} {m : MethodId} {below : List Frame} {meth : Method} {c : Code} {A : Nat → Prop} {kA vA : Nat → Nat} {dC : Nat → ClassId} {dI : Nat → Nat → Nat} {b : Nat} {xs : Nat → Int32} {xo : Nat} {mo : Nat} {xq1 : Nat} {xq3 : Nat} {xq7 : Nat} {xq12 : Nat} {xq14 : Nat} {xq24 : Nat} {xq34 : Nat} {xq36 : Nat} {xq38 : Nat} {xq48 : Nat} {xq51 : Nat} {xq53 : Nat} {xq55 : Nat} {xq57 : Nat} {xq59 : Nat} {xq16 : Nat} {xq17 : Nat} {xq18 : Nat} {xq19 : Nat} {mq1 : Nat} {mq3 : Nat} {mq5 : Nat} {mq7 : Nat} {mq9 : Nat} {mq11 : Nat} {mq13 : Nat} {mq15 : Nat} {mq17 : Nat} {mq19 : Nat} {mq21 : Nat} {mq23 : Nat} {mq25 : Nat} {mq27 : Nat} {mq29 : Nat} {mq31 : Nat} {mq33 : Nat} {mq35 : Nat} {mq37 : Nat} {mq39 : Nat} {mq41 : Nat} {mk20 : ClassId} (C0 : lw_At p s m meth c b 6 xs) (hA : ∀ q : Nat, s.heap.size ≤ q → A q) (hAq : ∀ q : Nat, A q → s.heap.size ≤ q) (hE : xE s) (hT : xT kA vA A s s.heap) (hK : va_K (dC, dI) classes [(mk20, .int)] s) {H : Heap} {locs : List Loc} (hP : va_P (dC, dI) classes [(xo, .inr (11, [.ref xq1, .int 0, .ref xq3, .ref xq7, .ref xq12, .int 0, .int (-1), .ref xq14, .ref xq24, .ref xq34, .ref xq36, .ref xq38, .ref xq48, .ref xq51, .ref xq53, .ref xq55, .ref xq57, .ref xq59, .int 0])), (xq14, .inr (1, [.int 0, .int 0, .int 0, .ref xq16, .ref xq17, .ref xq18, .ref xq19])), (mo, .inr (12, [.ref mq1, .int 0, .int 0, .ref mq3, .ref mq5, .ref mq7, .ref mq9, .ref mq11, .int 0, .int 0, .int 0, .int 0, .int 0, .int 0, .int 0, .ref mq13, .int 0, .ref mq15, .int 0, .ref mq17, .ref mq19, .int (-1), .int 0, .int 0, .int 0, .int 0, .int 0, .ref mq21, .int 0, .ref mq23, .ref mq25, .ref mq27, .int 0, .int 0, .int 0, .ref mq29, .ref mq31, .ref mq33, .long 0, .ref mq35, .ref mq37, .ref mq39, .ref mq41])), (mq19, .inl (mk20, 100, .inl (fun _ => 0)))] H) (hD : va_D A [(xo, .inr (11, [.ref xq1, .int 0, .ref xq3, .ref xq7, .ref xq12, .int 0, .int (-1), .ref xq14, .ref xq24, .ref xq34, .ref xq36, .ref xq38, .ref xq48, .ref xq51, .ref xq53, .ref xq55, .ref xq57, .ref xq59, .int 0])), (xq14, .inr (1, [.int 0, .int 0, .int 0, .ref xq16, .ref xq17, .ref xq18, .ref xq19])), (mo, .inr (12, [.ref mq1, .int 0, .int 0, .ref mq3, .ref mq5, .ref mq7, .ref mq9, .ref mq11, .int 0, .int 0, .int 0, .int 0, .int 0, .int 0, .int 0, .ref mq13, .int 0, .ref mq15, .int 0, .ref mq17, .ref mq19, .int (-1), .int 0, .int 0, .int 0, .int 0, .int 0, .ref mq21, .int 0, .ref mq23, .ref mq25, .ref mq27, .int 0, .int 0, .int 0, .ref mq29, .ref mq31, .ref mq33, .long 0, .ref mq35, .ref mq37, .ref mq39, .ref mq41])), (mq19, .inl (mk20, 100, .inl (fun _ => 0)))]) (hS : va_S A s.heap H locs) {ls : Array Slot} (hl : lv_has ls 4 [(3, .int 0), (2, .ref mo), (1, .ref xo), (0, .ref b)]) : W p l e room_1 s m #[Value.ref b] below meth c H locs 152 8829 (lw_Z below #[Value.ref b] s) (F0 m 1009 ls []) := by
  obtain ⟨hx, hb, hr, hml, hown, hts, hX, hbl, hlocks, hgv⟩ := id C0
  have hown : s.vm.findClass RL = some m.cls := hown
  have hq : ∀ w ∈ wsA, w.before _ s = true := fun w h => hts w (List.mem_filter.mp h).1
  have hbA : ¬ A b := fun h => Nat.not_le.mpr hbl (hAq b h)
  obtain ⟨z1, ez1⟩ : ∃ z : Int32, z = xs 1 := ⟨_, rfl⟩
  refine lv_aload_n hx hb dL_law_1009 rfl (lv_at hl 2 rfl) ?_
  refine lv_aload_n hx hb dL_law_1010 rfl (lv_at hl 3 rfl) ?_
  refine lv_iload_n hx hb dL_law_1011 rfl (lv_at hl 0 rfl) ?_
  refine lv_iconst (v := 1) hx hb dL_law_1012 (by decide) ?_
  refine lv_iadd hx hb dL_law_1013 ?_
  refine lv_topi (fun y_1 ey_1 => ?_)
  obtain rfl : y_1 = 1 := ey_1.trans (by decide)
  refine va_sld hx hb hX hbl hbA hS (inr_ok rfl) dL_law_1014 ?_
  refine W.eq (g2 := F0 m 1015 ls [.int z1, .ref xo]) (by rw [ez1]; rfl) ?_
  have hPc := hP.sub (ws' := [(xo, .inr (11, [.ref xq1, .int 0, .ref xq3, .ref xq7, .ref xq12, .int 0, .int (-1), .ref xq14, .ref xq24, .ref xq34, .ref xq36, .ref xq38, .ref xq48, .ref xq51, .ref xq53, .ref xq55, .ref xq57, .ref xq59, .int 0])), (xq14, .inr (1, [.int 0, .int 0, .int 0, .ref xq16, .ref xq17, .ref xq18, .ref xq19]))]) [0, 1] rfl
  have hDc := hD.sub (ws' := [(xo, .inr (11, [.ref xq1, .int 0, .ref xq3, .ref xq7, .ref xq12, .int 0, .int (-1), .ref xq14, .ref xq24, .ref xq34, .ref xq36, .ref xq38, .ref xq48, .ref xq51, .ref xq53, .ref xq55, .ref xq57, .ref xq59, .int 0])), (xq14, .inr (1, [.int 0, .int 0, .int 0, .ref xq16, .ref xq17, .ref xq18, .ref xq19]))]) [0, 1] (by decide) rfl
  have hKc := hK.sub (tys' := []) [] rfl
  have hFc := va_free (wc := [(xo, .inr (11, [.ref xq1, .int 0, .ref xq3, .ref xq7, .ref xq12, .int 0, .int (-1), .ref xq14, .ref xq24, .ref xq34, .ref xq36, .ref xq38, .ref xq48, .ref xq51, .ref xq53, .ref xq55, .ref xq57, .ref xq59, .int 0])), (xq14, .inr (1, [.int 0, .int 0, .int 0, .ref xq16, .ref xq17, .ref xq18, .ref xq19]))]) hD hS hA [0, 1] rfl
  refine va_calli (va_runV (As := [.int z1]) (rest := []) ⟨hx, hb, hml, hown, hq⟩ (c_SB_ruled l dC dI _ xo xq1 xq3 xq7 xq12 xq14 xq24 xq34 xq36 xq38 xq48 xq51 xq53 xq55 xq57 xq59 xq16 xq17 xq18 xq19 z1 ) (cwV 1 hq (gV qw_1088 qw_1089 qw_1090 qw_119 qw_1091) rfl rfl rfl (by decide +kernel) ⟨Nat.le_of_ble_eq_true rfl, Nat.le_of_ble_eq_true rfl⟩) ⟨fun a U g mk q => by obtain ⟨q0, q1, qP, qK, qD, qE⟩ := q; exact ⟨q0, q1, qP, va_K.moved (u := U) (U := U.calling g mk a) (Vm.Alike.refl U.vm) qK, qD, xE.same rfl qE⟩, va_recv hKc hPc (ci := 11) (q0 := 0) rfl rfl, fun U hU hW => ⟨rfl, by rw [hU], by rw [hU]; exact hPc, va_K.moved hW.alike hKc, hDc.weaken (fun _ _ _ _ => trivial), xE.warm hW hE⟩⟩ rfl rfl hl.1 rfl (lv_room (Nat.le_of_ble_eq_true rfl)) dL_law_1015 ⟨Nat.le_of_ble_eq_true rfl, Nat.le_of_ble_eq_true rfl⟩) hS (fun q _ h => hFc q h) hFc (fun r_2 u t H1 locs ht hvm hw hB hz1 hk1 hS => ?_)
  have hP1 : va_P (dC, dI) classes [] H1 := vP_nil
  have hD1 : va_D (va_A [(xo, .inr (11, [.ref xq1, .int 0, .ref xq3, .ref xq7, .ref xq12, .int 0, .int (-1), .ref xq14, .ref xq24, .ref xq34, .ref xq36, .ref xq38, .ref xq48, .ref xq51, .ref xq53, .ref xq55, .ref xq57, .ref xq59, .int 0])), (xq14, .inr (1, [.int 0, .int 0, .int 0, .ref xq16, .ref xq17, .ref xq18, .ref xq19]))] H.size) [] := vD_nil
  obtain ⟨hP, hD⟩ := va_join (wr := [(mo, .inr (12, [.ref mq1, .int 0, .int 0, .ref mq3, .ref mq5, .ref mq7, .ref mq9, .ref mq11, .int 0, .int 0, .int 0, .int 0, .int 0, .int 0, .int 0, .ref mq13, .int 0, .ref mq15, .int 0, .ref mq17, .ref mq19, .int (-1), .int 0, .int 0, .int 0, .int 0, .int 0, .ref mq21, .int 0, .ref mq23, .ref mq25, .ref mq27, .int 0, .int 0, .int 0, .ref mq29, .ref mq31, .ref mq33, .long 0, .ref mq35, .ref mq37, .ref mq39, .ref mq41])), (mq19, .inl (mk20, 100, .inl (fun _ => 0)))]) (w1 := []) hP hD [0, 1] [2, 3] rfl rfl (by decide) (by decide) hk1 hFc hP1 hD1
  generalize H1 = H at hP hS ⊢
  have hP : va_P (dC, dI) classes [(mo, .inr (12, [.ref mq1, .int 0, .int 0, .ref mq3, .ref mq5, .ref mq7, .ref mq9, .ref mq11, .int 0, .int 0, .int 0, .int 0, .int 0, .int 0, .int 0, .ref mq13, .int 0, .ref mq15, .int 0, .ref mq17, .ref mq19, .int (-1), .int 0, .int 0, .int 0, .int 0, .int 0, .ref mq21, .int 0, .ref mq23, .ref mq25, .ref mq27, .int 0, .int 0, .int 0, .ref mq29, .ref mq31, .ref mq33, .long 0, .ref mq35, .ref mq37, .ref mq39, .ref mq41])), (mq19, .inl (mk20, 100, .inl (fun _ => 0)))] H := hP
  have hD : va_D A [(mo, .inr (12, [.ref mq1, .int 0, .int 0, .ref mq3, .ref mq5, .ref mq7, .ref mq9, .ref mq11, .int 0, .int 0, .int 0, .int 0, .int 0, .int 0, .int 0, .ref mq13, .int 0, .ref mq15, .int 0, .ref mq17, .ref mq19, .int (-1), .int 0, .int 0, .int 0, .int 0, .int 0, .ref mq21, .int 0, .ref mq23, .ref mq25, .ref mq27, .int 0, .int 0, .int 0, .ref mq29, .ref mq31, .ref mq33, .long 0, .ref mq35, .ref mq37, .ref mq39, .ref mq41])), (mq19, .inl (mk20, 100, .inl (fun _ => 0)))] := hD
  obtain rfl : r_2 = (-3) := hw
  refine lv_aload_n hx hb dL_law_1018 rfl (lv_at hl 1 rfl) ?_
  refine lv_aload_n hx hb dL_law_1019 rfl (lv_at hl 3 rfl) ?_
  refine lv_iload_n hx hb dL_law_1020 rfl (lv_at hl 0 rfl) ?_
  refine lv_iconst (v := 1) hx hb dL_law_1021 (by decide) ?_
  refine lv_iadd hx hb dL_law_1022 ?_
  refine lv_topi (fun y_3 ey_3 => ?_)
  obtain rfl : y_3 = 1 := ey_3.trans (by decide)
  refine va_sld hx hb hX hbl hbA hS (inr_ok rfl) dL_law_1023 ?_
  refine W.eq (g2 := F0 m 1024 ls [.int z1, .ref mo, .int (-3)]) (by rw [ez1]; rfl) ?_
  have hPc := hP.sub (ws' := [(mo, .inr (12, [.ref mq1, .int 0, .int 0, .ref mq3, .ref mq5, .ref mq7, .ref mq9, .ref mq11, .int 0, .int 0, .int 0, .int 0, .int 0, .int 0, .int 0, .ref mq13, .int 0, .ref mq15, .int 0, .ref mq17, .ref mq19, .int (-1), .int 0, .int 0, .int 0, .int 0, .int 0, .ref mq21, .int 0, .ref mq23, .ref mq25, .ref mq27, .int 0, .int 0, .int 0, .ref mq29, .ref mq31, .ref mq33, .long 0, .ref mq35, .ref mq37, .ref mq39, .ref mq41])), (mq19, .inl (mk20, 100, .inl (fun _ => 0)))]) [0, 1] rfl
  have hDc := hD.sub (ws' := [(mo, .inr (12, [.ref mq1, .int 0, .int 0, .ref mq3, .ref mq5, .ref mq7, .ref mq9, .ref mq11, .int 0, .int 0, .int 0, .int 0, .int 0, .int 0, .int 0, .ref mq13, .int 0, .ref mq15, .int 0, .ref mq17, .ref mq19, .int (-1), .int 0, .int 0, .int 0, .int 0, .int 0, .ref mq21, .int 0, .ref mq23, .ref mq25, .ref mq27, .int 0, .int 0, .int 0, .ref mq29, .ref mq31, .ref mq33, .long 0, .ref mq35, .ref mq37, .ref mq39, .ref mq41])), (mq19, .inl (mk20, 100, .inl (fun _ => 0)))]) [0, 1] (by decide) rfl
  have hKc := hK.sub (tys' := [(mk20, .int)]) [0] rfl
  have hFc := va_free (wc := [(mo, .inr (12, [.ref mq1, .int 0, .int 0, .ref mq3, .ref mq5, .ref mq7, .ref mq9, .ref mq11, .int 0, .int 0, .int 0, .int 0, .int 0, .int 0, .int 0, .ref mq13, .int 0, .ref mq15, .int 0, .ref mq17, .ref mq19, .int (-1), .int 0, .int 0, .int 0, .int 0, .int 0, .ref mq21, .int 0, .ref mq23, .ref mq25, .ref mq27, .int 0, .int 0, .int 0, .ref mq29, .ref mq31, .ref mq33, .long 0, .ref mq35, .ref mq37, .ref mq39, .ref mq41])), (mq19, .inl (mk20, 100, .inl (fun _ => 0)))]) hD hS hA [0, 1] rfl
  refine va_calli (va_runV (As := [.int z1]) (rest := [.int (-3)]) ⟨hx, hb, hml, hown, hq⟩ (c_M_ruled l dC dI _ mo mq1 mq3 mq5 mq7 mq9 mq11 mq13 mq15 mq17 mq19 mq21 mq23 mq25 mq27 mq29 mq31 mq33 mq35 mq37 mq39 mq41 mk20 z1 ) (cwV 1 hq (gV qw_1749 qw_1750 qw_1751 qw_131 qw_1752) rfl rfl rfl (by decide +kernel) ⟨Nat.le_of_ble_eq_true rfl, Nat.le_of_ble_eq_true rfl⟩) ⟨fun a U g mk q => by obtain ⟨q0, q1, qP, qK, qD, qE⟩ := q; exact ⟨q0, q1, qP, va_K.moved (u := U) (U := U.calling g mk a) (Vm.Alike.refl U.vm) qK, qD, xE.same rfl qE⟩, va_recv hKc hPc (ci := 12) (q0 := 0) rfl rfl, fun U hU hW => ⟨rfl, by rw [hU], by rw [hU]; exact hPc, va_K.moved hW.alike hKc, hDc.weaken (fun _ _ _ _ => trivial), xE.warm hW hE⟩⟩ rfl rfl hl.1 rfl (lv_room (Nat.le_of_ble_eq_true rfl)) dL_law_1024 ⟨Nat.le_of_ble_eq_true rfl, Nat.le_of_ble_eq_true rfl⟩) hS (fun q _ h => hFc q h) hFc (fun r_4 u t H1 locs ht hvm hw hB hz1 hk1 hS => ?_)
  have hP1 : va_P (dC, dI) classes [] H1 := vP_nil
  have hD1 : va_D (va_A [(mo, .inr (12, [.ref mq1, .int 0, .int 0, .ref mq3, .ref mq5, .ref mq7, .ref mq9, .ref mq11, .int 0, .int 0, .int 0, .int 0, .int 0, .int 0, .int 0, .ref mq13, .int 0, .ref mq15, .int 0, .ref mq17, .ref mq19, .int (-1), .int 0, .int 0, .int 0, .int 0, .int 0, .ref mq21, .int 0, .ref mq23, .ref mq25, .ref mq27, .int 0, .int 0, .int 0, .ref mq29, .ref mq31, .ref mq33, .long 0, .ref mq35, .ref mq37, .ref mq39, .ref mq41])), (mq19, .inl (mk20, 100, .inl (fun _ => 0)))] H.size) [] := vD_nil
  obtain ⟨hP, hD⟩ := va_join (wr := []) (w1 := []) hP hD [0, 1] [] rfl rfl (by decide) (by decide) hk1 hFc hP1 hD1
  generalize H1 = H at hP hS ⊢
  have hP : va_P (dC, dI) classes [] H := hP
  have hD : va_D A [] := hD
  obtain rfl : r_4 = (-3) := hw
  refine lv_icmp_eq (tgt := 1210) hx hb dL_law_1027 (by decide) (fun _ => ?_) (fun c9 => absurd c9 (by decide))
  exact law_end C0 hAq hS (lv_sub hl [0, 1, 2, 3] rfl)
set_option maxHeartbeats 4000000 in
set_option maxRecDepth 100000 in
/-- look, the first call -/
theorem law_30 {p : Program} {l : Launch} {e : Env} {s : State} {m : MethodId} {below : List Frame} {meth : Method} {c : Code} {A : Nat → Prop} {kA vA : Nat → Nat} {dC : Nat → ClassId} {dI : Nat → Nat → Nat} {b : Nat} {xs : Nat → Int32} {xo : Nat} {mo : Nat} {xq1 : Nat} {xq3 : Nat} {xq7 : Nat} {xq12 : Nat} {xq14 : Nat} {xq24 : Nat} {xq34 : Nat} {xq36 : Nat} {xq38 : Nat} {xq48 : Nat} {xq51 : Nat} {xq53 : Nat} {xq55 : Nat} {xq57 : Nat} {xq59 : Nat} {xq16 : Nat} {xq17 : Nat} {xq18 : Nat} {xq19 : Nat} {mq1 : Nat} {mq3 : Nat} {mq5 : Nat} {mq7 : Nat} {mq9 : Nat} {mq11 : Nat} {mq13 : Nat} {mq15 : Nat} {mq17 : Nat} {mq19 : Nat} {mq21 : Nat} {mq23 : Nat} {mq25 : Nat} {mq27 : Nat} {mq29 : Nat} {mq31 : Nat} {mq33 : Nat} {mq35 : Nat} {mq37 : Nat} {mq39 : Nat} {mq41 : Nat} {mk20 : ClassId} (C0 : lw_At p s m meth c b 6 xs) (hA : ∀ q : Nat, s.heap.size ≤ q → A q) (hAq : ∀ q : Nat, A q → s.heap.size ≤ q) (hE : xE s) (hT : xT kA vA A s s.heap) (hK : va_K (dC, dI) classes [(mk20, .int)] s) {H : Heap} {locs : List Loc} (hP : va_P (dC, dI) classes [(xo, .inr (11, [.ref xq1, .int 0, .ref xq3, .ref xq7, .ref xq12, .int 0, .int (-1), .ref xq14, .ref xq24, .ref xq34, .ref xq36, .ref xq38, .ref xq48, .ref xq51, .ref xq53, .ref xq55, .ref xq57, .ref xq59, .int 0])), (xq14, .inr (1, [.int 0, .int 0, .int 0, .ref xq16, .ref xq17, .ref xq18, .ref xq19])), (mo, .inr (12, [.ref mq1, .int 0, .int 0, .ref mq3, .ref mq5, .ref mq7, .ref mq9, .ref mq11, .int 0, .int 0, .int 0, .int 0, .int 0, .int 0, .int 0, .ref mq13, .int 0, .ref mq15, .int 0, .ref mq17, .ref mq19, .int (-1), .int 0, .int 0, .int 0, .int 0, .int 0, .ref mq21, .int 0, .ref mq23, .ref mq25, .ref mq27, .int 0, .int 0, .int 0, .ref mq29, .ref mq31, .ref mq33, .long 0, .ref mq35, .ref mq37, .ref mq39, .ref mq41])), (mq19, .inl (mk20, 100, .inl (fun _ => 0)))] H) (hD : va_D A [(xo, .inr (11, [.ref xq1, .int 0, .ref xq3, .ref xq7, .ref xq12, .int 0, .int (-1), .ref xq14, .ref xq24, .ref xq34, .ref xq36, .ref xq38, .ref xq48, .ref xq51, .ref xq53, .ref xq55, .ref xq57, .ref xq59, .int 0])), (xq14, .inr (1, [.int 0, .int 0, .int 0, .ref xq16, .ref xq17, .ref xq18, .ref xq19])), (mo, .inr (12, [.ref mq1, .int 0, .int 0, .ref mq3, .ref mq5, .ref mq7, .ref mq9, .ref mq11, .int 0, .int 0, .int 0, .int 0, .int 0, .int 0, .int 0, .ref mq13, .int 0, .ref mq15, .int 0, .ref mq17, .ref mq19, .int (-1), .int 0, .int 0, .int 0, .int 0, .int 0, .ref mq21, .int 0, .ref mq23, .ref mq25, .ref mq27, .int 0, .int 0, .int 0, .ref mq29, .ref mq31, .ref mq33, .long 0, .ref mq35, .ref mq37, .ref mq39, .ref mq41])), (mq19, .inl (mk20, 100, .inl (fun _ => 0)))]) (hS : va_S A s.heap H locs) {ls : Array Slot} (hl : lv_has ls 4 [(3, .int 0), (2, .ref mo), (1, .ref xo), (0, .ref b)]) : W p l e room_1 s m #[Value.ref b] below meth c H locs 152 8829 (lw_Z below #[Value.ref b] s) (F0 m 1032 ls []) := by
  obtain ⟨hx, hb, hr, hml, hown, hts, hX, hbl, hlocks, hgv⟩ := id C0
  have hown : s.vm.findClass RL = some m.cls := hown
  have hq : ∀ w ∈ wsA, w.before _ s = true := fun w h => hts w (List.mem_filter.mp h).1
  have hbA : ¬ A b := fun h => Nat.not_le.mpr hbl (hAq b h)
  obtain ⟨z1, ez1⟩ : ∃ z : Int32, z = xs 1 := ⟨_, rfl⟩
  obtain ⟨z2, ez2⟩ : ∃ z : Int32, z = xs 2 := ⟨_, rfl⟩
  refine lv_aload_n hx hb dL_law_1032 rfl (lv_at hl 2 rfl) ?_
  refine lv_aload_n hx hb dL_law_1033 rfl (lv_at hl 3 rfl) ?_
  refine lv_iload_n hx hb dL_law_1034 rfl (lv_at hl 0 rfl) ?_
  refine lv_iconst (v := 1) hx hb dL_law_1035 (by decide) ?_
  refine lv_iadd hx hb dL_law_1036 ?_
  refine lv_topi (fun y_1 ey_1 => ?_)
  obtain rfl : y_1 = 1 := ey_1.trans (by decide)
  refine va_sld hx hb hX hbl hbA hS (inr_ok rfl) dL_law_1037 ?_
  refine W.eq (g2 := F0 m 1038 ls [.int z1, .ref xo]) (by rw [ez1]; rfl) ?_
  refine lv_aload_n hx hb dL_law_1038 rfl (lv_at hl 3 rfl) ?_
  refine lv_iload_n hx hb dL_law_1039 rfl (lv_at hl 0 rfl) ?_
  refine lv_iconst (v := 2) hx hb dL_law_1040 (by decide) ?_
  refine lv_iadd hx hb dL_law_1041 ?_
  refine lv_topi (fun y_2 ey_2 => ?_)
  obtain rfl : y_2 = 2 := ey_2.trans (by decide)
  refine va_sld hx hb hX hbl hbA hS (inr_ok rfl) dL_law_1042 ?_
  refine W.eq (g2 := F0 m 1043 ls [.int z2, .int z1, .ref xo]) (by rw [ez2]; rfl) ?_
  have hPc := hP.sub (ws' := [(xo, .inr (11, [.ref xq1, .int 0, .ref xq3, .ref xq7, .ref xq12, .int 0, .int (-1), .ref xq14, .ref xq24, .ref xq34, .ref xq36, .ref xq38, .ref xq48, .ref xq51, .ref xq53, .ref xq55, .ref xq57, .ref xq59, .int 0])), (xq14, .inr (1, [.int 0, .int 0, .int 0, .ref xq16, .ref xq17, .ref xq18, .ref xq19]))]) [0, 1] rfl
  have hDc := hD.sub (ws' := [(xo, .inr (11, [.ref xq1, .int 0, .ref xq3, .ref xq7, .ref xq12, .int 0, .int (-1), .ref xq14, .ref xq24, .ref xq34, .ref xq36, .ref xq38, .ref xq48, .ref xq51, .ref xq53, .ref xq55, .ref xq57, .ref xq59, .int 0])), (xq14, .inr (1, [.int 0, .int 0, .int 0, .ref xq16, .ref xq17, .ref xq18, .ref xq19]))]) [0, 1] (by decide) rfl
  have hKc := hK.sub (tys' := []) [] rfl
  have hFc := va_free (wc := [(xo, .inr (11, [.ref xq1, .int 0, .ref xq3, .ref xq7, .ref xq12, .int 0, .int (-1), .ref xq14, .ref xq24, .ref xq34, .ref xq36, .ref xq38, .ref xq48, .ref xq51, .ref xq53, .ref xq55, .ref xq57, .ref xq59, .int 0])), (xq14, .inr (1, [.int 0, .int 0, .int 0, .ref xq16, .ref xq17, .ref xq18, .ref xq19]))]) hD hS hA [0, 1] rfl
  refine va_calli (va_runV (As := [.int z1, .int z2]) (rest := []) ⟨hx, hb, hml, hown, hq⟩ (c_SB_look l dC dI _ xo xq1 xq3 xq7 xq12 xq14 xq24 xq34 xq36 xq38 xq48 xq51 xq53 xq55 xq57 xq59 xq16 xq17 xq18 xq19 z1 z2 ) (cwV 2 hq (gV qw_1097 qw_1098 qw_1099 qw_119 qw_1100) rfl rfl rfl (by decide +kernel) ⟨Nat.le_of_ble_eq_true rfl, Nat.le_of_ble_eq_true rfl⟩) ⟨fun a U g mk q => by obtain ⟨q0, q1, qP, qK, qD, qE⟩ := q; exact ⟨q0, q1, qP, va_K.moved (u := U) (U := U.calling g mk a) (Vm.Alike.refl U.vm) qK, qD, xE.same rfl qE⟩, va_recv hKc hPc (ci := 11) (q0 := 0) rfl rfl, fun U hU hW => ⟨rfl, by rw [hU], by rw [hU]; exact hPc, va_K.moved hW.alike hKc, hDc.weaken (fun _ _ _ _ => trivial), xE.warm hW hE⟩⟩ rfl rfl hl.1 rfl (lv_room (Nat.le_of_ble_eq_true rfl)) dL_law_1043 ⟨Nat.le_of_ble_eq_true rfl, Nat.le_of_ble_eq_true rfl⟩) hS (fun q _ h => hFc q h) hFc (fun r_3 u t H1 locs ht hvm hw hB hz1 hk1 hS => ?_)
  have hP1 : va_P (dC, dI) classes [] H1 := vP_nil
  have hD1 : va_D (va_A [(xo, .inr (11, [.ref xq1, .int 0, .ref xq3, .ref xq7, .ref xq12, .int 0, .int (-1), .ref xq14, .ref xq24, .ref xq34, .ref xq36, .ref xq38, .ref xq48, .ref xq51, .ref xq53, .ref xq55, .ref xq57, .ref xq59, .int 0])), (xq14, .inr (1, [.int 0, .int 0, .int 0, .ref xq16, .ref xq17, .ref xq18, .ref xq19]))] H.size) [] := vD_nil
  obtain ⟨hP, hD⟩ := va_join (wr := [(mo, .inr (12, [.ref mq1, .int 0, .int 0, .ref mq3, .ref mq5, .ref mq7, .ref mq9, .ref mq11, .int 0, .int 0, .int 0, .int 0, .int 0, .int 0, .int 0, .ref mq13, .int 0, .ref mq15, .int 0, .ref mq17, .ref mq19, .int (-1), .int 0, .int 0, .int 0, .int 0, .int 0, .ref mq21, .int 0, .ref mq23, .ref mq25, .ref mq27, .int 0, .int 0, .int 0, .ref mq29, .ref mq31, .ref mq33, .long 0, .ref mq35, .ref mq37, .ref mq39, .ref mq41])), (mq19, .inl (mk20, 100, .inl (fun _ => 0)))]) (w1 := []) hP hD [0, 1] [2, 3] rfl rfl (by decide) (by decide) hk1 hFc hP1 hD1
  generalize H1 = H at hP hS ⊢
  have hP : va_P (dC, dI) classes [(mo, .inr (12, [.ref mq1, .int 0, .int 0, .ref mq3, .ref mq5, .ref mq7, .ref mq9, .ref mq11, .int 0, .int 0, .int 0, .int 0, .int 0, .int 0, .int 0, .ref mq13, .int 0, .ref mq15, .int 0, .ref mq17, .ref mq19, .int (-1), .int 0, .int 0, .int 0, .int 0, .int 0, .ref mq21, .int 0, .ref mq23, .ref mq25, .ref mq27, .int 0, .int 0, .int 0, .ref mq29, .ref mq31, .ref mq33, .long 0, .ref mq35, .ref mq37, .ref mq39, .ref mq41])), (mq19, .inl (mk20, 100, .inl (fun _ => 0)))] H := hP
  have hD : va_D A [(mo, .inr (12, [.ref mq1, .int 0, .int 0, .ref mq3, .ref mq5, .ref mq7, .ref mq9, .ref mq11, .int 0, .int 0, .int 0, .int 0, .int 0, .int 0, .int 0, .ref mq13, .int 0, .ref mq15, .int 0, .ref mq17, .ref mq19, .int (-1), .int 0, .int 0, .int 0, .int 0, .int 0, .ref mq21, .int 0, .ref mq23, .ref mq25, .ref mq27, .int 0, .int 0, .int 0, .ref mq29, .ref mq31, .ref mq33, .long 0, .ref mq35, .ref mq37, .ref mq39, .ref mq41])), (mq19, .inl (mk20, 100, .inl (fun _ => 0)))] := hD
  obtain rfl : r_3 = (-1) := hw
  refine lv_aload_n hx hb dL_law_1046 rfl (lv_at hl 1 rfl) ?_
  refine lv_aload_n hx hb dL_law_1047 rfl (lv_at hl 3 rfl) ?_
  refine lv_iload_n hx hb dL_law_1048 rfl (lv_at hl 0 rfl) ?_
  refine lv_iconst (v := 1) hx hb dL_law_1049 (by decide) ?_
  refine lv_iadd hx hb dL_law_1050 ?_
  refine lv_topi (fun y_4 ey_4 => ?_)
  obtain rfl : y_4 = 1 := ey_4.trans (by decide)
  refine va_sld hx hb hX hbl hbA hS (inr_ok rfl) dL_law_1051 ?_
  refine W.eq (g2 := F0 m 1052 ls [.int z1, .ref mo, .int (-1)]) (by rw [ez1]; rfl) ?_
  refine lv_aload_n hx hb dL_law_1052 rfl (lv_at hl 3 rfl) ?_
  refine lv_iload_n hx hb dL_law_1053 rfl (lv_at hl 0 rfl) ?_
  refine lv_iconst (v := 2) hx hb dL_law_1054 (by decide) ?_
  refine lv_iadd hx hb dL_law_1055 ?_
  refine lv_topi (fun y_5 ey_5 => ?_)
  obtain rfl : y_5 = 2 := ey_5.trans (by decide)
  refine va_sld hx hb hX hbl hbA hS (inr_ok rfl) dL_law_1056 ?_
  refine W.eq (g2 := F0 m 1057 ls [.int z2, .int z1, .ref mo, .int (-1)]) (by rw [ez2]; rfl) ?_
  have hPc := hP.sub (ws' := [(mo, .inr (12, [.ref mq1, .int 0, .int 0, .ref mq3, .ref mq5, .ref mq7, .ref mq9, .ref mq11, .int 0, .int 0, .int 0, .int 0, .int 0, .int 0, .int 0, .ref mq13, .int 0, .ref mq15, .int 0, .ref mq17, .ref mq19, .int (-1), .int 0, .int 0, .int 0, .int 0, .int 0, .ref mq21, .int 0, .ref mq23, .ref mq25, .ref mq27, .int 0, .int 0, .int 0, .ref mq29, .ref mq31, .ref mq33, .long 0, .ref mq35, .ref mq37, .ref mq39, .ref mq41])), (mq19, .inl (mk20, 100, .inl (fun _ => 0)))]) [0, 1] rfl
  have hDc := hD.sub (ws' := [(mo, .inr (12, [.ref mq1, .int 0, .int 0, .ref mq3, .ref mq5, .ref mq7, .ref mq9, .ref mq11, .int 0, .int 0, .int 0, .int 0, .int 0, .int 0, .int 0, .ref mq13, .int 0, .ref mq15, .int 0, .ref mq17, .ref mq19, .int (-1), .int 0, .int 0, .int 0, .int 0, .int 0, .ref mq21, .int 0, .ref mq23, .ref mq25, .ref mq27, .int 0, .int 0, .int 0, .ref mq29, .ref mq31, .ref mq33, .long 0, .ref mq35, .ref mq37, .ref mq39, .ref mq41])), (mq19, .inl (mk20, 100, .inl (fun _ => 0)))]) [0, 1] (by decide) rfl
  have hKc := hK.sub (tys' := [(mk20, .int)]) [0] rfl
  have hFc := va_free (wc := [(mo, .inr (12, [.ref mq1, .int 0, .int 0, .ref mq3, .ref mq5, .ref mq7, .ref mq9, .ref mq11, .int 0, .int 0, .int 0, .int 0, .int 0, .int 0, .int 0, .ref mq13, .int 0, .ref mq15, .int 0, .ref mq17, .ref mq19, .int (-1), .int 0, .int 0, .int 0, .int 0, .int 0, .ref mq21, .int 0, .ref mq23, .ref mq25, .ref mq27, .int 0, .int 0, .int 0, .ref mq29, .ref mq31, .ref mq33, .long 0, .ref mq35, .ref mq37, .ref mq39, .ref mq41])), (mq19, .inl (mk20, 100, .inl (fun _ => 0)))]) hD hS hA [0, 1] rfl
  refine va_calli (va_runV (As := [.int z1, .int z2]) (rest := [.int (-1)]) ⟨hx, hb, hml, hown, hq⟩ (c_M_look l dC dI _ mo mq1 mq3 mq5 mq7 mq9 mq11 mq13 mq15 mq17 mq19 mq21 mq23 mq25 mq27 mq29 mq31 mq33 mq35 mq37 mq39 mq41 mk20 z1 z2 ) (cwV 2 hq (gV qw_1757 qw_1758 qw_1759 qw_131 qw_1760) rfl rfl rfl (by decide +kernel) ⟨Nat.le_of_ble_eq_true rfl, Nat.le_of_ble_eq_true rfl⟩) ⟨fun a U g mk q => by obtain ⟨q0, q1, qP, qK, qD, qE⟩ := q; exact ⟨q0, q1, qP, va_K.moved (u := U) (U := U.calling g mk a) (Vm.Alike.refl U.vm) qK, qD, xE.same rfl qE⟩, va_recv hKc hPc (ci := 12) (q0 := 0) rfl rfl, fun U hU hW => ⟨rfl, by rw [hU], by rw [hU]; exact hPc, va_K.moved hW.alike hKc, hDc.weaken (fun _ _ _ _ => trivial), xE.warm hW hE⟩⟩ rfl rfl hl.1 rfl (lv_room (Nat.le_of_ble_eq_true rfl)) dL_law_1057 ⟨Nat.le_of_ble_eq_true rfl, Nat.le_of_ble_eq_true rfl⟩) hS (fun q _ h => hFc q h) hFc (fun r_6 u t H1 locs ht hvm hw hB hz1 hk1 hS => ?_)
  have hP1 : va_P (dC, dI) classes [] H1 := vP_nil
  have hD1 : va_D (va_A [(mo, .inr (12, [.ref mq1, .int 0, .int 0, .ref mq3, .ref mq5, .ref mq7, .ref mq9, .ref mq11, .int 0, .int 0, .int 0, .int 0, .int 0, .int 0, .int 0, .ref mq13, .int 0, .ref mq15, .int 0, .ref mq17, .ref mq19, .int (-1), .int 0, .int 0, .int 0, .int 0, .int 0, .ref mq21, .int 0, .ref mq23, .ref mq25, .ref mq27, .int 0, .int 0, .int 0, .ref mq29, .ref mq31, .ref mq33, .long 0, .ref mq35, .ref mq37, .ref mq39, .ref mq41])), (mq19, .inl (mk20, 100, .inl (fun _ => 0)))] H.size) [] := vD_nil
  obtain ⟨hP, hD⟩ := va_join (wr := []) (w1 := []) hP hD [0, 1] [] rfl rfl (by decide) (by decide) hk1 hFc hP1 hD1
  generalize H1 = H at hP hS ⊢
  have hP : va_P (dC, dI) classes [] H := hP
  have hD : va_D A [] := hD
  obtain rfl : r_6 = (-1) := hw
  refine lv_icmp_eq (tgt := 1210) hx hb dL_law_1060 (by decide) (fun _ => ?_) (fun c9 => absurd c9 (by decide))
  exact law_end C0 hAq hS (lv_sub hl [0, 1, 2, 3] rfl)
set_option maxHeartbeats 4000000 in
set_option maxRecDepth 100000 in
/-- seed, the first call -/
theorem law_31 {p : Program} {l : Launch} {e : Env} {s : State} {m : MethodId} {below : List Frame} {meth : Method} {c : Code} {A : Nat → Prop} {kA vA : Nat → Nat} {dC : Nat → ClassId} {dI : Nat → Nat → Nat} {b : Nat} {xs : Nat → Int32} {xo : Nat} {mo : Nat} {xq1 : Nat} {xq3 : Nat} {xq7 : Nat} {xq12 : Nat} {xq14 : Nat} {xq24 : Nat} {xq34 : Nat} {xq36 : Nat} {xq38 : Nat} {xq48 : Nat} {xq51 : Nat} {xq53 : Nat} {xq55 : Nat} {xq57 : Nat} {xq59 : Nat} {mq1 : Nat} {mq3 : Nat} {mq5 : Nat} {mq7 : Nat} {mq9 : Nat} {mq11 : Nat} {mq13 : Nat} {mq15 : Nat} {mq17 : Nat} {mq19 : Nat} {mq21 : Nat} {mq23 : Nat} {mq25 : Nat} {mq27 : Nat} {mq29 : Nat} {mq31 : Nat} {mq33 : Nat} {mq35 : Nat} {mq37 : Nat} {mq39 : Nat} {mq41 : Nat} (C0 : lw_At p s m meth c b 6 xs) (hA : ∀ q : Nat, s.heap.size ≤ q → A q) (hAq : ∀ q : Nat, A q → s.heap.size ≤ q) (hE : xE s) (hT : xT kA vA A s s.heap) (hK : va_K (dC, dI) classes [] s) {H : Heap} {locs : List Loc} (hP : va_P (dC, dI) classes [(xo, .inr (11, [.ref xq1, .int 0, .ref xq3, .ref xq7, .ref xq12, .int 0, .int (-1), .ref xq14, .ref xq24, .ref xq34, .ref xq36, .ref xq38, .ref xq48, .ref xq51, .ref xq53, .ref xq55, .ref xq57, .ref xq59, .int 0])), (mo, .inr (12, [.ref mq1, .int 0, .int 0, .ref mq3, .ref mq5, .ref mq7, .ref mq9, .ref mq11, .int 0, .int 0, .int 0, .int 0, .int 0, .int 0, .int 0, .ref mq13, .int 0, .ref mq15, .int 0, .ref mq17, .ref mq19, .int (-1), .int 0, .int 0, .int 0, .int 0, .int 0, .ref mq21, .int 0, .ref mq23, .ref mq25, .ref mq27, .int 0, .int 0, .int 0, .ref mq29, .ref mq31, .ref mq33, .long 0, .ref mq35, .ref mq37, .ref mq39, .ref mq41]))] H) (hD : va_D A [(xo, .inr (11, [.ref xq1, .int 0, .ref xq3, .ref xq7, .ref xq12, .int 0, .int (-1), .ref xq14, .ref xq24, .ref xq34, .ref xq36, .ref xq38, .ref xq48, .ref xq51, .ref xq53, .ref xq55, .ref xq57, .ref xq59, .int 0])), (mo, .inr (12, [.ref mq1, .int 0, .int 0, .ref mq3, .ref mq5, .ref mq7, .ref mq9, .ref mq11, .int 0, .int 0, .int 0, .int 0, .int 0, .int 0, .int 0, .ref mq13, .int 0, .ref mq15, .int 0, .ref mq17, .ref mq19, .int (-1), .int 0, .int 0, .int 0, .int 0, .int 0, .ref mq21, .int 0, .ref mq23, .ref mq25, .ref mq27, .int 0, .int 0, .int 0, .ref mq29, .ref mq31, .ref mq33, .long 0, .ref mq35, .ref mq37, .ref mq39, .ref mq41]))]) (hS : va_S A s.heap H locs) {ls : Array Slot} (hl : lv_has ls 4 [(3, .int 0), (2, .ref mo), (1, .ref xo), (0, .ref b)]) : W p l e room_1 s m #[Value.ref b] below meth c H locs 152 8829 (lw_Z below #[Value.ref b] s) (F0 m 1065 ls []) := by
  obtain ⟨hx, hb, hr, hml, hown, hts, hX, hbl, hlocks, hgv⟩ := id C0
  have hown : s.vm.findClass RL = some m.cls := hown
  have hq : ∀ w ∈ wsA, w.before _ s = true := fun w h => hts w (List.mem_filter.mp h).1
  have hbA : ¬ A b := fun h => Nat.not_le.mpr hbl (hAq b h)
  obtain ⟨z1, ez1⟩ : ∃ z : Int32, z = xs 1 := ⟨_, rfl⟩
  refine lv_aload_n hx hb dL_law_1065 rfl (lv_at hl 2 rfl) ?_
  refine lv_aload_n hx hb dL_law_1066 rfl (lv_at hl 3 rfl) ?_
  refine lv_iload_n hx hb dL_law_1067 rfl (lv_at hl 0 rfl) ?_
  refine lv_iconst (v := 1) hx hb dL_law_1068 (by decide) ?_
  refine lv_iadd hx hb dL_law_1069 ?_
  refine lv_topi (fun y_1 ey_1 => ?_)
  obtain rfl : y_1 = 1 := ey_1.trans (by decide)
  refine va_sld hx hb hX hbl hbA hS (inr_ok rfl) dL_law_1070 ?_
  refine W.eq (g2 := F0 m 1071 ls [.int z1, .ref xo]) (by rw [ez1]; rfl) ?_
  have hPc := hP.sub (ws' := [(xo, .inr (11, [.ref xq1, .int 0, .ref xq3, .ref xq7, .ref xq12, .int 0, .int (-1), .ref xq14, .ref xq24, .ref xq34, .ref xq36, .ref xq38, .ref xq48, .ref xq51, .ref xq53, .ref xq55, .ref xq57, .ref xq59, .int 0]))]) [0] rfl
  have hDc := hD.sub (ws' := [(xo, .inr (11, [.ref xq1, .int 0, .ref xq3, .ref xq7, .ref xq12, .int 0, .int (-1), .ref xq14, .ref xq24, .ref xq34, .ref xq36, .ref xq38, .ref xq48, .ref xq51, .ref xq53, .ref xq55, .ref xq57, .ref xq59, .int 0]))]) [0] (by decide) rfl
  have hKc := hK.sub (tys' := []) [] rfl
  have hFc := va_free (wc := [(xo, .inr (11, [.ref xq1, .int 0, .ref xq3, .ref xq7, .ref xq12, .int 0, .int (-1), .ref xq14, .ref xq24, .ref xq34, .ref xq36, .ref xq38, .ref xq48, .ref xq51, .ref xq53, .ref xq55, .ref xq57, .ref xq59, .int 0]))]) hD hS hA [0] rfl
  refine va_calli (va_runV (As := [.int z1]) (rest := []) ⟨hx, hb, hml, hown, hq⟩ (c_SB_seed l dC dI _ xo xq1 xq3 xq7 xq12 xq14 xq24 xq34 xq36 xq38 xq48 xq51 xq53 xq55 xq57 xq59 z1 ) (cwV 1 hq (gV qw_1111 qw_1112 qw_1113 qw_119 qw_1114) rfl rfl rfl (by decide +kernel) ⟨Nat.le_of_ble_eq_true rfl, Nat.le_of_ble_eq_true rfl⟩) ⟨fun a U g mk q => by obtain ⟨q0, q1, qP, qK, qD, qE⟩ := q; exact ⟨q0, q1, qP, va_K.moved (u := U) (U := U.calling g mk a) (Vm.Alike.refl U.vm) qK, qD, xE.same rfl qE⟩, va_recv hKc hPc (ci := 11) (q0 := 0) rfl rfl, fun U hU hW => ⟨rfl, by rw [hU], by rw [hU]; exact hPc, va_K.moved hW.alike hKc, hDc.weaken (fun _ _ _ _ => trivial), xE.warm hW hE⟩⟩ rfl rfl hl.1 rfl (lv_room (Nat.le_of_ble_eq_true rfl)) dL_law_1071 ⟨Nat.le_of_ble_eq_true rfl, Nat.le_of_ble_eq_true rfl⟩) hS (fun q _ h => hFc q h) hFc (fun r_2 u t H1 locs ht hvm hw hB hz1 hk1 hS => ?_)
  have hP1 : va_P (dC, dI) classes [] H1 := vP_nil
  have hD1 : va_D (va_A [(xo, .inr (11, [.ref xq1, .int 0, .ref xq3, .ref xq7, .ref xq12, .int 0, .int (-1), .ref xq14, .ref xq24, .ref xq34, .ref xq36, .ref xq38, .ref xq48, .ref xq51, .ref xq53, .ref xq55, .ref xq57, .ref xq59, .int 0]))] H.size) [] := vD_nil
  obtain ⟨hP, hD⟩ := va_join (wr := [(mo, .inr (12, [.ref mq1, .int 0, .int 0, .ref mq3, .ref mq5, .ref mq7, .ref mq9, .ref mq11, .int 0, .int 0, .int 0, .int 0, .int 0, .int 0, .int 0, .ref mq13, .int 0, .ref mq15, .int 0, .ref mq17, .ref mq19, .int (-1), .int 0, .int 0, .int 0, .int 0, .int 0, .ref mq21, .int 0, .ref mq23, .ref mq25, .ref mq27, .int 0, .int 0, .int 0, .ref mq29, .ref mq31, .ref mq33, .long 0, .ref mq35, .ref mq37, .ref mq39, .ref mq41]))]) (w1 := []) hP hD [0] [1] rfl rfl (by decide) (by decide) hk1 hFc hP1 hD1
  generalize H1 = H at hP hS ⊢
  have hP : va_P (dC, dI) classes [(mo, .inr (12, [.ref mq1, .int 0, .int 0, .ref mq3, .ref mq5, .ref mq7, .ref mq9, .ref mq11, .int 0, .int 0, .int 0, .int 0, .int 0, .int 0, .int 0, .ref mq13, .int 0, .ref mq15, .int 0, .ref mq17, .ref mq19, .int (-1), .int 0, .int 0, .int 0, .int 0, .int 0, .ref mq21, .int 0, .ref mq23, .ref mq25, .ref mq27, .int 0, .int 0, .int 0, .ref mq29, .ref mq31, .ref mq33, .long 0, .ref mq35, .ref mq37, .ref mq39, .ref mq41]))] H := hP
  have hD : va_D A [(mo, .inr (12, [.ref mq1, .int 0, .int 0, .ref mq3, .ref mq5, .ref mq7, .ref mq9, .ref mq11, .int 0, .int 0, .int 0, .int 0, .int 0, .int 0, .int 0, .ref mq13, .int 0, .ref mq15, .int 0, .ref mq17, .ref mq19, .int (-1), .int 0, .int 0, .int 0, .int 0, .int 0, .ref mq21, .int 0, .ref mq23, .ref mq25, .ref mq27, .int 0, .int 0, .int 0, .ref mq29, .ref mq31, .ref mq33, .long 0, .ref mq35, .ref mq37, .ref mq39, .ref mq41]))] := hD
  have hr_2 := hw
  refine lv_aload_n hx hb dL_law_1074 rfl (lv_at hl 1 rfl) ?_
  refine lv_aload_n hx hb dL_law_1075 rfl (lv_at hl 3 rfl) ?_
  refine lv_iload_n hx hb dL_law_1076 rfl (lv_at hl 0 rfl) ?_
  refine lv_iconst (v := 1) hx hb dL_law_1077 (by decide) ?_
  refine lv_iadd hx hb dL_law_1078 ?_
  refine lv_topi (fun y_3 ey_3 => ?_)
  obtain rfl : y_3 = 1 := ey_3.trans (by decide)
  refine va_sld hx hb hX hbl hbA hS (inr_ok rfl) dL_law_1079 ?_
  refine W.eq (g2 := F0 m 1080 ls [.int z1, .ref mo, .int r_2]) (by rw [ez1]; rfl) ?_
  have hPc := hP.sub (ws' := [(mo, .inr (12, [.ref mq1, .int 0, .int 0, .ref mq3, .ref mq5, .ref mq7, .ref mq9, .ref mq11, .int 0, .int 0, .int 0, .int 0, .int 0, .int 0, .int 0, .ref mq13, .int 0, .ref mq15, .int 0, .ref mq17, .ref mq19, .int (-1), .int 0, .int 0, .int 0, .int 0, .int 0, .ref mq21, .int 0, .ref mq23, .ref mq25, .ref mq27, .int 0, .int 0, .int 0, .ref mq29, .ref mq31, .ref mq33, .long 0, .ref mq35, .ref mq37, .ref mq39, .ref mq41]))]) [0] rfl
  have hDc := hD.sub (ws' := [(mo, .inr (12, [.ref mq1, .int 0, .int 0, .ref mq3, .ref mq5, .ref mq7, .ref mq9, .ref mq11, .int 0, .int 0, .int 0, .int 0, .int 0, .int 0, .int 0, .ref mq13, .int 0, .ref mq15, .int 0, .ref mq17, .ref mq19, .int (-1), .int 0, .int 0, .int 0, .int 0, .int 0, .ref mq21, .int 0, .ref mq23, .ref mq25, .ref mq27, .int 0, .int 0, .int 0, .ref mq29, .ref mq31, .ref mq33, .long 0, .ref mq35, .ref mq37, .ref mq39, .ref mq41]))]) [0] (by decide) rfl
  have hKc := hK.sub (tys' := []) [] rfl
  have hFc := va_free (wc := [(mo, .inr (12, [.ref mq1, .int 0, .int 0, .ref mq3, .ref mq5, .ref mq7, .ref mq9, .ref mq11, .int 0, .int 0, .int 0, .int 0, .int 0, .int 0, .int 0, .ref mq13, .int 0, .ref mq15, .int 0, .ref mq17, .ref mq19, .int (-1), .int 0, .int 0, .int 0, .int 0, .int 0, .ref mq21, .int 0, .ref mq23, .ref mq25, .ref mq27, .int 0, .int 0, .int 0, .ref mq29, .ref mq31, .ref mq33, .long 0, .ref mq35, .ref mq37, .ref mq39, .ref mq41]))]) hD hS hA [0] rfl
  refine va_calli (va_runV (As := [.int z1]) (rest := [.int r_2]) ⟨hx, hb, hml, hown, hq⟩ (c_M_seed l dC dI _ mo mq1 mq3 mq5 mq7 mq9 mq11 mq13 mq15 mq17 mq19 mq21 mq23 mq25 mq27 mq29 mq31 mq33 mq35 mq37 mq39 mq41 z1 ) (cwV 1 hq (gV qw_1765 qw_1766 qw_1767 qw_131 qw_1768) rfl rfl rfl (by decide +kernel) ⟨Nat.le_of_ble_eq_true rfl, Nat.le_of_ble_eq_true rfl⟩) ⟨fun a U g mk q => by obtain ⟨q0, q1, qP, qK, qD, qE⟩ := q; exact ⟨q0, q1, qP, va_K.moved (u := U) (U := U.calling g mk a) (Vm.Alike.refl U.vm) qK, qD, xE.same rfl qE⟩, va_recv hKc hPc (ci := 12) (q0 := 0) rfl rfl, fun U hU hW => ⟨rfl, by rw [hU], by rw [hU]; exact hPc, va_K.moved hW.alike hKc, hDc.weaken (fun _ _ _ _ => trivial), xE.warm hW hE⟩⟩ rfl rfl hl.1 rfl (lv_room (Nat.le_of_ble_eq_true rfl)) dL_law_1080 ⟨Nat.le_of_ble_eq_true rfl, Nat.le_of_ble_eq_true rfl⟩) hS (fun q _ h => hFc q h) hFc (fun r_4 u t H1 locs ht hvm hw hB hz1 hk1 hS => ?_)
  have hP1 : va_P (dC, dI) classes [] H1 := vP_nil
  have hD1 : va_D (va_A [(mo, .inr (12, [.ref mq1, .int 0, .int 0, .ref mq3, .ref mq5, .ref mq7, .ref mq9, .ref mq11, .int 0, .int 0, .int 0, .int 0, .int 0, .int 0, .int 0, .ref mq13, .int 0, .ref mq15, .int 0, .ref mq17, .ref mq19, .int (-1), .int 0, .int 0, .int 0, .int 0, .int 0, .ref mq21, .int 0, .ref mq23, .ref mq25, .ref mq27, .int 0, .int 0, .int 0, .ref mq29, .ref mq31, .ref mq33, .long 0, .ref mq35, .ref mq37, .ref mq39, .ref mq41]))] H.size) [] := vD_nil
  obtain ⟨hP, hD⟩ := va_join (wr := []) (w1 := []) hP hD [0] [] rfl rfl (by decide) (by decide) hk1 hFc hP1 hD1
  generalize H1 = H at hP hS ⊢
  have hP : va_P (dC, dI) classes [] H := hP
  have hD : va_D A [] := hD
  have hr_4 := hw
  refine lv_icmp_eq (tgt := 1210) hx hb dL_law_1083 (by decide) (fun _ => ?_) (fun c9 => absurd (eqP hr_2 hr_4) c9)
  exact law_end C0 hAq hS (lv_sub hl [0, 1, 2, 3] rfl)
set_option maxHeartbeats 4000000 in
set_option maxRecDepth 100000 in
/-- hiccups, the first call -/
theorem law_32 {p : Program} {l : Launch} {e : Env} {s : State} {m : MethodId} {below : List Frame} {meth : Method} {c : Code} {A : Nat → Prop} {kA vA : Nat → Nat} {dC : Nat → ClassId} {dI : Nat → Nat → Nat} {b : Nat} {xs : Nat → Int32} {xo : Nat} {mo : Nat} {xq1 : Nat} {xq3 : Nat} {xq7 : Nat} {xq12 : Nat} {xq14 : Nat} {xq24 : Nat} {xq34 : Nat} {xq36 : Nat} {xq38 : Nat} {xq48 : Nat} {xq51 : Nat} {xq53 : Nat} {xq55 : Nat} {xq57 : Nat} {xq59 : Nat} {xq16 : Nat} {xq17 : Nat} {xq18 : Nat} {xq19 : Nat} {mq1 : Nat} {mq3 : Nat} {mq5 : Nat} {mq7 : Nat} {mq9 : Nat} {mq11 : Nat} {mq13 : Nat} {mq15 : Nat} {mq17 : Nat} {mq19 : Nat} {mq21 : Nat} {mq23 : Nat} {mq25 : Nat} {mq27 : Nat} {mq29 : Nat} {mq31 : Nat} {mq33 : Nat} {mq35 : Nat} {mq37 : Nat} {mq39 : Nat} {mq41 : Nat} {mk20 : ClassId} (C0 : lw_At p s m meth c b 6 xs) (hA : ∀ q : Nat, s.heap.size ≤ q → A q) (hAq : ∀ q : Nat, A q → s.heap.size ≤ q) (hE : xE s) (hT : xT kA vA A s s.heap) (hK : va_K (dC, dI) classes [(mk20, .int)] s) {H : Heap} {locs : List Loc} (hP : va_P (dC, dI) classes [(xo, .inr (11, [.ref xq1, .int 0, .ref xq3, .ref xq7, .ref xq12, .int 0, .int (-1), .ref xq14, .ref xq24, .ref xq34, .ref xq36, .ref xq38, .ref xq48, .ref xq51, .ref xq53, .ref xq55, .ref xq57, .ref xq59, .int 0])), (xq14, .inr (1, [.int 0, .int 0, .int 0, .ref xq16, .ref xq17, .ref xq18, .ref xq19])), (mo, .inr (12, [.ref mq1, .int 0, .int 0, .ref mq3, .ref mq5, .ref mq7, .ref mq9, .ref mq11, .int 0, .int 0, .int 0, .int 0, .int 0, .int 0, .int 0, .ref mq13, .int 0, .ref mq15, .int 0, .ref mq17, .ref mq19, .int (-1), .int 0, .int 0, .int 0, .int 0, .int 0, .ref mq21, .int 0, .ref mq23, .ref mq25, .ref mq27, .int 0, .int 0, .int 0, .ref mq29, .ref mq31, .ref mq33, .long 0, .ref mq35, .ref mq37, .ref mq39, .ref mq41])), (mq19, .inl (mk20, 100, .inl (fun _ => 0)))] H) (hD : va_D A [(xo, .inr (11, [.ref xq1, .int 0, .ref xq3, .ref xq7, .ref xq12, .int 0, .int (-1), .ref xq14, .ref xq24, .ref xq34, .ref xq36, .ref xq38, .ref xq48, .ref xq51, .ref xq53, .ref xq55, .ref xq57, .ref xq59, .int 0])), (xq14, .inr (1, [.int 0, .int 0, .int 0, .ref xq16, .ref xq17, .ref xq18, .ref xq19])), (mo, .inr (12, [.ref mq1, .int 0, .int 0, .ref mq3, .ref mq5, .ref mq7, .ref mq9, .ref mq11, .int 0, .int 0, .int 0, .int 0, .int 0, .int 0, .int 0, .ref mq13, .int 0, .ref mq15, .int 0, .ref mq17, .ref mq19, .int (-1), .int 0, .int 0, .int 0, .int 0, .int 0, .ref mq21, .int 0, .ref mq23, .ref mq25, .ref mq27, .int 0, .int 0, .int 0, .ref mq29, .ref mq31, .ref mq33, .long 0, .ref mq35, .ref mq37, .ref mq39, .ref mq41])), (mq19, .inl (mk20, 100, .inl (fun _ => 0)))]) (hS : va_S A s.heap H locs) {ls : Array Slot} (hl : lv_has ls 4 [(3, .int 0), (2, .ref mo), (1, .ref xo), (0, .ref b)]) : W p l e room_1 s m #[Value.ref b] below meth c H locs 152 8829 (lw_Z below #[Value.ref b] s) (F0 m 1088 ls []) := by
  obtain ⟨hx, hb, hr, hml, hown, hts, hX, hbl, hlocks, hgv⟩ := id C0
  have hown : s.vm.findClass RL = some m.cls := hown
  have hq : ∀ w ∈ wsA, w.before _ s = true := fun w h => hts w (List.mem_filter.mp h).1
  have hbA : ¬ A b := fun h => Nat.not_le.mpr hbl (hAq b h)
  obtain ⟨z1, ez1⟩ : ∃ z : Int32, z = xs 1 := ⟨_, rfl⟩
  obtain ⟨z2, ez2⟩ : ∃ z : Int32, z = xs 2 := ⟨_, rfl⟩
  obtain ⟨z3, ez3⟩ : ∃ z : Int32, z = xs 3 := ⟨_, rfl⟩
  obtain ⟨z4, ez4⟩ : ∃ z : Int32, z = xs 4 := ⟨_, rfl⟩
  refine lv_aload_n hx hb dL_law_1088 rfl (lv_at hl 2 rfl) ?_
  refine lv_aload_n hx hb dL_law_1089 rfl (lv_at hl 3 rfl) ?_
  refine lv_iload_n hx hb dL_law_1090 rfl (lv_at hl 0 rfl) ?_
  refine lv_iconst (v := 1) hx hb dL_law_1091 (by decide) ?_
  refine lv_iadd hx hb dL_law_1092 ?_
  refine lv_topi (fun y_1 ey_1 => ?_)
  obtain rfl : y_1 = 1 := ey_1.trans (by decide)
  refine va_sld hx hb hX hbl hbA hS (inr_ok rfl) dL_law_1093 ?_
  refine W.eq (g2 := F0 m 1094 ls [.int z1, .ref xo]) (by rw [ez1]; rfl) ?_
  refine lv_aload_n hx hb dL_law_1094 rfl (lv_at hl 3 rfl) ?_
  refine lv_iload_n hx hb dL_law_1095 rfl (lv_at hl 0 rfl) ?_
  refine lv_iconst (v := 2) hx hb dL_law_1096 (by decide) ?_
  refine lv_iadd hx hb dL_law_1097 ?_
  refine lv_topi (fun y_2 ey_2 => ?_)
  obtain rfl : y_2 = 2 := ey_2.trans (by decide)
  refine va_sld hx hb hX hbl hbA hS (inr_ok rfl) dL_law_1098 ?_
  refine W.eq (g2 := F0 m 1099 ls [.int z2, .int z1, .ref xo]) (by rw [ez2]; rfl) ?_
  refine lv_aload_n hx hb dL_law_1099 rfl (lv_at hl 3 rfl) ?_
  refine lv_iload_n hx hb dL_law_1100 rfl (lv_at hl 0 rfl) ?_
  refine lv_iconst (v := 3) hx hb dL_law_1101 (by decide) ?_
  refine lv_iadd hx hb dL_law_1102 ?_
  refine lv_topi (fun y_3 ey_3 => ?_)
  obtain rfl : y_3 = 3 := ey_3.trans (by decide)
  refine va_sld hx hb hX hbl hbA hS (inr_ok rfl) dL_law_1103 ?_
  refine W.eq (g2 := F0 m 1104 ls [.int z3, .int z2, .int z1, .ref xo]) (by rw [ez3]; rfl) ?_
  refine lv_aload_n hx hb dL_law_1104 rfl (lv_at hl 3 rfl) ?_
  refine lv_iload_n hx hb dL_law_1105 rfl (lv_at hl 0 rfl) ?_
  refine lv_iconst (v := 4) hx hb dL_law_1106 (by decide) ?_
  refine lv_iadd hx hb dL_law_1107 ?_
  refine lv_topi (fun y_4 ey_4 => ?_)
  obtain rfl : y_4 = 4 := ey_4.trans (by decide)
  refine va_sld hx hb hX hbl hbA hS (inr_ok rfl) dL_law_1108 ?_
  refine W.eq (g2 := F0 m 1109 ls [.int z4, .int z3, .int z2, .int z1, .ref xo]) (by rw [ez4]; rfl) ?_
  have hPc := hP.sub (ws' := [(xo, .inr (11, [.ref xq1, .int 0, .ref xq3, .ref xq7, .ref xq12, .int 0, .int (-1), .ref xq14, .ref xq24, .ref xq34, .ref xq36, .ref xq38, .ref xq48, .ref xq51, .ref xq53, .ref xq55, .ref xq57, .ref xq59, .int 0])), (xq14, .inr (1, [.int 0, .int 0, .int 0, .ref xq16, .ref xq17, .ref xq18, .ref xq19]))]) [0, 1] rfl
  have hDc := hD.sub (ws' := [(xo, .inr (11, [.ref xq1, .int 0, .ref xq3, .ref xq7, .ref xq12, .int 0, .int (-1), .ref xq14, .ref xq24, .ref xq34, .ref xq36, .ref xq38, .ref xq48, .ref xq51, .ref xq53, .ref xq55, .ref xq57, .ref xq59, .int 0])), (xq14, .inr (1, [.int 0, .int 0, .int 0, .ref xq16, .ref xq17, .ref xq18, .ref xq19]))]) [0, 1] (by decide) rfl
  have hKc := hK.sub (tys' := []) [] rfl
  have hFc := va_free (wc := [(xo, .inr (11, [.ref xq1, .int 0, .ref xq3, .ref xq7, .ref xq12, .int 0, .int (-1), .ref xq14, .ref xq24, .ref xq34, .ref xq36, .ref xq38, .ref xq48, .ref xq51, .ref xq53, .ref xq55, .ref xq57, .ref xq59, .int 0])), (xq14, .inr (1, [.int 0, .int 0, .int 0, .ref xq16, .ref xq17, .ref xq18, .ref xq19]))]) hD hS hA [0, 1] rfl
  refine va_calli (va_runV (As := [.int z1, .int z2, .int z3, .int z4]) (rest := []) ⟨hx, hb, hml, hown, hq⟩ (c_SB_hiccups l dC dI _ xo xq1 xq3 xq7 xq12 xq14 xq24 xq34 xq36 xq38 xq48 xq51 xq53 xq55 xq57 xq59 xq16 xq17 xq18 xq19 z1 z2 z3 z4 ) (cwV 4 hq (gV qw_1115 qw_1116 qw_1117 qw_119 qw_1118) rfl rfl rfl (by decide +kernel) ⟨Nat.le_of_ble_eq_true rfl, Nat.le_of_ble_eq_true rfl⟩) ⟨fun a U g mk q => by obtain ⟨q0, q1, qP, qK, qD, qE⟩ := q; exact ⟨q0, q1, qP, va_K.moved (u := U) (U := U.calling g mk a) (Vm.Alike.refl U.vm) qK, qD, xE.same rfl qE⟩, va_recv hKc hPc (ci := 11) (q0 := 0) rfl rfl, fun U hU hW => ⟨rfl, by rw [hU], by rw [hU]; exact hPc, va_K.moved hW.alike hKc, hDc.weaken (fun _ _ _ _ => trivial), xE.warm hW hE⟩⟩ rfl rfl hl.1 rfl (lv_room (Nat.le_of_ble_eq_true rfl)) dL_law_1109 ⟨Nat.le_of_ble_eq_true rfl, Nat.le_of_ble_eq_true rfl⟩) hS (fun q _ h => hFc q h) hFc (fun r_5 u t H1 locs ht hvm hw hB hz1 hk1 hS => ?_)
  have hP1 : va_P (dC, dI) classes [] H1 := vP_nil
  have hD1 : va_D (va_A [(xo, .inr (11, [.ref xq1, .int 0, .ref xq3, .ref xq7, .ref xq12, .int 0, .int (-1), .ref xq14, .ref xq24, .ref xq34, .ref xq36, .ref xq38, .ref xq48, .ref xq51, .ref xq53, .ref xq55, .ref xq57, .ref xq59, .int 0])), (xq14, .inr (1, [.int 0, .int 0, .int 0, .ref xq16, .ref xq17, .ref xq18, .ref xq19]))] H.size) [] := vD_nil
  obtain ⟨hP, hD⟩ := va_join (wr := [(mo, .inr (12, [.ref mq1, .int 0, .int 0, .ref mq3, .ref mq5, .ref mq7, .ref mq9, .ref mq11, .int 0, .int 0, .int 0, .int 0, .int 0, .int 0, .int 0, .ref mq13, .int 0, .ref mq15, .int 0, .ref mq17, .ref mq19, .int (-1), .int 0, .int 0, .int 0, .int 0, .int 0, .ref mq21, .int 0, .ref mq23, .ref mq25, .ref mq27, .int 0, .int 0, .int 0, .ref mq29, .ref mq31, .ref mq33, .long 0, .ref mq35, .ref mq37, .ref mq39, .ref mq41])), (mq19, .inl (mk20, 100, .inl (fun _ => 0)))]) (w1 := []) hP hD [0, 1] [2, 3] rfl rfl (by decide) (by decide) hk1 hFc hP1 hD1
  generalize H1 = H at hP hS ⊢
  have hP : va_P (dC, dI) classes [(mo, .inr (12, [.ref mq1, .int 0, .int 0, .ref mq3, .ref mq5, .ref mq7, .ref mq9, .ref mq11, .int 0, .int 0, .int 0, .int 0, .int 0, .int 0, .int 0, .ref mq13, .int 0, .ref mq15, .int 0, .ref mq17, .ref mq19, .int (-1), .int 0, .int 0, .int 0, .int 0, .int 0, .ref mq21, .int 0, .ref mq23, .ref mq25, .ref mq27, .int 0, .int 0, .int 0, .ref mq29, .ref mq31, .ref mq33, .long 0, .ref mq35, .ref mq37, .ref mq39, .ref mq41])), (mq19, .inl (mk20, 100, .inl (fun _ => 0)))] H := hP
  have hD : va_D A [(mo, .inr (12, [.ref mq1, .int 0, .int 0, .ref mq3, .ref mq5, .ref mq7, .ref mq9, .ref mq11, .int 0, .int 0, .int 0, .int 0, .int 0, .int 0, .int 0, .ref mq13, .int 0, .ref mq15, .int 0, .ref mq17, .ref mq19, .int (-1), .int 0, .int 0, .int 0, .int 0, .int 0, .ref mq21, .int 0, .ref mq23, .ref mq25, .ref mq27, .int 0, .int 0, .int 0, .ref mq29, .ref mq31, .ref mq33, .long 0, .ref mq35, .ref mq37, .ref mq39, .ref mq41])), (mq19, .inl (mk20, 100, .inl (fun _ => 0)))] := hD
  obtain rfl : r_5 = (-1) := hw
  refine lv_aload_n hx hb dL_law_1112 rfl (lv_at hl 1 rfl) ?_
  refine lv_aload_n hx hb dL_law_1113 rfl (lv_at hl 3 rfl) ?_
  refine lv_iload_n hx hb dL_law_1114 rfl (lv_at hl 0 rfl) ?_
  refine lv_iconst (v := 1) hx hb dL_law_1115 (by decide) ?_
  refine lv_iadd hx hb dL_law_1116 ?_
  refine lv_topi (fun y_6 ey_6 => ?_)
  obtain rfl : y_6 = 1 := ey_6.trans (by decide)
  refine va_sld hx hb hX hbl hbA hS (inr_ok rfl) dL_law_1117 ?_
  refine W.eq (g2 := F0 m 1118 ls [.int z1, .ref mo, .int (-1)]) (by rw [ez1]; rfl) ?_
  refine lv_aload_n hx hb dL_law_1118 rfl (lv_at hl 3 rfl) ?_
  refine lv_iload_n hx hb dL_law_1119 rfl (lv_at hl 0 rfl) ?_
  refine lv_iconst (v := 2) hx hb dL_law_1120 (by decide) ?_
  refine lv_iadd hx hb dL_law_1121 ?_
  refine lv_topi (fun y_7 ey_7 => ?_)
  obtain rfl : y_7 = 2 := ey_7.trans (by decide)
  refine va_sld hx hb hX hbl hbA hS (inr_ok rfl) dL_law_1122 ?_
  refine W.eq (g2 := F0 m 1123 ls [.int z2, .int z1, .ref mo, .int (-1)]) (by rw [ez2]; rfl) ?_
  refine lv_aload_n hx hb dL_law_1123 rfl (lv_at hl 3 rfl) ?_
  refine lv_iload_n hx hb dL_law_1124 rfl (lv_at hl 0 rfl) ?_
  refine lv_iconst (v := 3) hx hb dL_law_1125 (by decide) ?_
  refine lv_iadd hx hb dL_law_1126 ?_
  refine lv_topi (fun y_8 ey_8 => ?_)
  obtain rfl : y_8 = 3 := ey_8.trans (by decide)
  refine va_sld hx hb hX hbl hbA hS (inr_ok rfl) dL_law_1127 ?_
  refine W.eq (g2 := F0 m 1128 ls [.int z3, .int z2, .int z1, .ref mo, .int (-1)]) (by rw [ez3]; rfl) ?_
  refine lv_aload_n hx hb dL_law_1128 rfl (lv_at hl 3 rfl) ?_
  refine lv_iload_n hx hb dL_law_1129 rfl (lv_at hl 0 rfl) ?_
  refine lv_iconst (v := 4) hx hb dL_law_1130 (by decide) ?_
  refine lv_iadd hx hb dL_law_1131 ?_
  refine lv_topi (fun y_9 ey_9 => ?_)
  obtain rfl : y_9 = 4 := ey_9.trans (by decide)
  refine va_sld hx hb hX hbl hbA hS (inr_ok rfl) dL_law_1132 ?_
  refine W.eq (g2 := F0 m 1133 ls [.int z4, .int z3, .int z2, .int z1, .ref mo, .int (-1)]) (by rw [ez4]; rfl) ?_
  have hPc := hP.sub (ws' := [(mo, .inr (12, [.ref mq1, .int 0, .int 0, .ref mq3, .ref mq5, .ref mq7, .ref mq9, .ref mq11, .int 0, .int 0, .int 0, .int 0, .int 0, .int 0, .int 0, .ref mq13, .int 0, .ref mq15, .int 0, .ref mq17, .ref mq19, .int (-1), .int 0, .int 0, .int 0, .int 0, .int 0, .ref mq21, .int 0, .ref mq23, .ref mq25, .ref mq27, .int 0, .int 0, .int 0, .ref mq29, .ref mq31, .ref mq33, .long 0, .ref mq35, .ref mq37, .ref mq39, .ref mq41])), (mq19, .inl (mk20, 100, .inl (fun _ => 0)))]) [0, 1] rfl
  have hDc := hD.sub (ws' := [(mo, .inr (12, [.ref mq1, .int 0, .int 0, .ref mq3, .ref mq5, .ref mq7, .ref mq9, .ref mq11, .int 0, .int 0, .int 0, .int 0, .int 0, .int 0, .int 0, .ref mq13, .int 0, .ref mq15, .int 0, .ref mq17, .ref mq19, .int (-1), .int 0, .int 0, .int 0, .int 0, .int 0, .ref mq21, .int 0, .ref mq23, .ref mq25, .ref mq27, .int 0, .int 0, .int 0, .ref mq29, .ref mq31, .ref mq33, .long 0, .ref mq35, .ref mq37, .ref mq39, .ref mq41])), (mq19, .inl (mk20, 100, .inl (fun _ => 0)))]) [0, 1] (by decide) rfl
  have hKc := hK.sub (tys' := [(mk20, .int)]) [0] rfl
  have hFc := va_free (wc := [(mo, .inr (12, [.ref mq1, .int 0, .int 0, .ref mq3, .ref mq5, .ref mq7, .ref mq9, .ref mq11, .int 0, .int 0, .int 0, .int 0, .int 0, .int 0, .int 0, .ref mq13, .int 0, .ref mq15, .int 0, .ref mq17, .ref mq19, .int (-1), .int 0, .int 0, .int 0, .int 0, .int 0, .ref mq21, .int 0, .ref mq23, .ref mq25, .ref mq27, .int 0, .int 0, .int 0, .ref mq29, .ref mq31, .ref mq33, .long 0, .ref mq35, .ref mq37, .ref mq39, .ref mq41])), (mq19, .inl (mk20, 100, .inl (fun _ => 0)))]) hD hS hA [0, 1] rfl
  refine va_calli (va_runV (As := [.int z1, .int z2, .int z3, .int z4]) (rest := [.int (-1)]) ⟨hx, hb, hml, hown, hq⟩ (c_M_hiccups l dC dI _ mo mq1 mq3 mq5 mq7 mq9 mq11 mq13 mq15 mq17 mq19 mq21 mq23 mq25 mq27 mq29 mq31 mq33 mq35 mq37 mq39 mq41 mk20 z1 z2 z3 z4 ) (cwV 4 hq (gV qw_1769 qw_1770 qw_1771 qw_131 qw_1772) rfl rfl rfl (by decide +kernel) ⟨Nat.le_of_ble_eq_true rfl, Nat.le_of_ble_eq_true rfl⟩) ⟨fun a U g mk q => by obtain ⟨q0, q1, qP, qK, qD, qE⟩ := q; exact ⟨q0, q1, qP, va_K.moved (u := U) (U := U.calling g mk a) (Vm.Alike.refl U.vm) qK, qD, xE.same rfl qE⟩, va_recv hKc hPc (ci := 12) (q0 := 0) rfl rfl, fun U hU hW => ⟨rfl, by rw [hU], by rw [hU]; exact hPc, va_K.moved hW.alike hKc, hDc.weaken (fun _ _ _ _ => trivial), xE.warm hW hE⟩⟩ rfl rfl hl.1 rfl (lv_room (Nat.le_of_ble_eq_true rfl)) dL_law_1133 ⟨Nat.le_of_ble_eq_true rfl, Nat.le_of_ble_eq_true rfl⟩) hS (fun q _ h => hFc q h) hFc (fun r_10 u t H1 locs ht hvm hw hB hz1 hk1 hS => ?_)
  have hP1 : va_P (dC, dI) classes [] H1 := vP_nil
  have hD1 : va_D (va_A [(mo, .inr (12, [.ref mq1, .int 0, .int 0, .ref mq3, .ref mq5, .ref mq7, .ref mq9, .ref mq11, .int 0, .int 0, .int 0, .int 0, .int 0, .int 0, .int 0, .ref mq13, .int 0, .ref mq15, .int 0, .ref mq17, .ref mq19, .int (-1), .int 0, .int 0, .int 0, .int 0, .int 0, .ref mq21, .int 0, .ref mq23, .ref mq25, .ref mq27, .int 0, .int 0, .int 0, .ref mq29, .ref mq31, .ref mq33, .long 0, .ref mq35, .ref mq37, .ref mq39, .ref mq41])), (mq19, .inl (mk20, 100, .inl (fun _ => 0)))] H.size) [] := vD_nil
  obtain ⟨hP, hD⟩ := va_join (wr := []) (w1 := []) hP hD [0, 1] [] rfl rfl (by decide) (by decide) hk1 hFc hP1 hD1
  generalize H1 = H at hP hS ⊢
  have hP : va_P (dC, dI) classes [] H := hP
  have hD : va_D A [] := hD
  obtain rfl : r_10 = (-1) := hw
  refine lv_icmp_eq (tgt := 1210) hx hb dL_law_1136 (by decide) (fun _ => ?_) (fun c9 => absurd c9 (by decide))
  exact law_end C0 hAq hS (lv_sub hl [0, 1, 2, 3] rfl)
set_option maxHeartbeats 4000000 in
set_option maxRecDepth 100000 in
/-- count, the first call -/
theorem law_33 {p : Program} {l : Launch} {e : Env} {s : State} {m : MethodId} {below : List Frame} {meth : Method} {c : Code} {A : Nat → Prop} {kA vA : Nat → Nat} {dC : Nat → ClassId} {dI : Nat → Nat → Nat} {b : Nat} {xs : Nat → Int32} {xo : Nat} {mo : Nat} {xq1 : Nat} {xq3 : Nat} {xq7 : Nat} {xq12 : Nat} {xq14 : Nat} {xq24 : Nat} {xq34 : Nat} {xq36 : Nat} {xq38 : Nat} {xq48 : Nat} {xq51 : Nat} {xq53 : Nat} {xq55 : Nat} {xq57 : Nat} {xq59 : Nat} {xq16 : Nat} {xq17 : Nat} {xq18 : Nat} {xq19 : Nat} {xq40 : Nat} {xq41 : Nat} {xq42 : Nat} {xq43 : Nat} {xq50 : Nat} {mq1 : Nat} {mq3 : Nat} {mq5 : Nat} {mq7 : Nat} {mq9 : Nat} {mq11 : Nat} {mq13 : Nat} {mq15 : Nat} {mq17 : Nat} {mq19 : Nat} {mq21 : Nat} {mq23 : Nat} {mq25 : Nat} {mq27 : Nat} {mq29 : Nat} {mq31 : Nat} {mq33 : Nat} {mq35 : Nat} {mq37 : Nat} {mq39 : Nat} {mq41 : Nat} {mk20 : ClassId} (C0 : lw_At p s m meth c b 6 xs) (hA : ∀ q : Nat, s.heap.size ≤ q → A q) (hAq : ∀ q : Nat, A q → s.heap.size ≤ q) (hE : xE s) (hT : xT kA vA A s s.heap) (hK : va_K (dC, dI) classes [(mk20, .int)] s) {H : Heap} {locs : List Loc} (hP : va_P (dC, dI) classes [(xo, .inr (11, [.ref xq1, .int 0, .ref xq3, .ref xq7, .ref xq12, .int 0, .int (-1), .ref xq14, .ref xq24, .ref xq34, .ref xq36, .ref xq38, .ref xq48, .ref xq51, .ref xq53, .ref xq55, .ref xq57, .ref xq59, .int 0])), (xq14, .inr (1, [.int 0, .int 0, .int 0, .ref xq16, .ref xq17, .ref xq18, .ref xq19])), (xq34, .inr (3, [.int 0, .int (-1), .int 0, .int 0, .int 0, .long 0])), (xq38, .inr (5, [.int 0, .ref xq40, .ref xq41, .ref xq42, .ref xq43])), (xq48, .inr (6, [.ref xq50, .int 0, .int 0])), (mo, .inr (12, [.ref mq1, .int 0, .int 0, .ref mq3, .ref mq5, .ref mq7, .ref mq9, .ref mq11, .int 0, .int 0, .int 0, .int 0, .int 0, .int 0, .int 0, .ref mq13, .int 0, .ref mq15, .int 0, .ref mq17, .ref mq19, .int (-1), .int 0, .int 0, .int 0, .int 0, .int 0, .ref mq21, .int 0, .ref mq23, .ref mq25, .ref mq27, .int 0, .int 0, .int 0, .ref mq29, .ref mq31, .ref mq33, .long 0, .ref mq35, .ref mq37, .ref mq39, .ref mq41])), (mq19, .inl (mk20, 100, .inl (fun _ => 0)))] H) (hD : va_D A [(xo, .inr (11, [.ref xq1, .int 0, .ref xq3, .ref xq7, .ref xq12, .int 0, .int (-1), .ref xq14, .ref xq24, .ref xq34, .ref xq36, .ref xq38, .ref xq48, .ref xq51, .ref xq53, .ref xq55, .ref xq57, .ref xq59, .int 0])), (xq14, .inr (1, [.int 0, .int 0, .int 0, .ref xq16, .ref xq17, .ref xq18, .ref xq19])), (xq34, .inr (3, [.int 0, .int (-1), .int 0, .int 0, .int 0, .long 0])), (xq38, .inr (5, [.int 0, .ref xq40, .ref xq41, .ref xq42, .ref xq43])), (xq48, .inr (6, [.ref xq50, .int 0, .int 0])), (mo, .inr (12, [.ref mq1, .int 0, .int 0, .ref mq3, .ref mq5, .ref mq7, .ref mq9, .ref mq11, .int 0, .int 0, .int 0, .int 0, .int 0, .int 0, .int 0, .ref mq13, .int 0, .ref mq15, .int 0, .ref mq17, .ref mq19, .int (-1), .int 0, .int 0, .int 0, .int 0, .int 0, .ref mq21, .int 0, .ref mq23, .ref mq25, .ref mq27, .int 0, .int 0, .int 0, .ref mq29, .ref mq31, .ref mq33, .long 0, .ref mq35, .ref mq37, .ref mq39, .ref mq41])), (mq19, .inl (mk20, 100, .inl (fun _ => 0)))]) (hS : va_S A s.heap H locs) {ls : Array Slot} (hl : lv_has ls 4 [(3, .int 0), (2, .ref mo), (1, .ref xo), (0, .ref b)]) : W p l e room_1 s m #[Value.ref b] below meth c H locs 152 8829 (lw_Z below #[Value.ref b] s) (F0 m 1141 ls []) := by
  obtain ⟨hx, hb, hr, hml, hown, hts, hX, hbl, hlocks, hgv⟩ := id C0
  have hown : s.vm.findClass RL = some m.cls := hown
  have hq : ∀ w ∈ wsA, w.before _ s = true := fun w h => hts w (List.mem_filter.mp h).1
  have hbA : ¬ A b := fun h => Nat.not_le.mpr hbl (hAq b h)
  obtain ⟨z1, ez1⟩ : ∃ z : Int32, z = xs 1 := ⟨_, rfl⟩
  refine lv_aload_n hx hb dL_law_1141 rfl (lv_at hl 2 rfl) ?_
  refine lv_aload_n hx hb dL_law_1142 rfl (lv_at hl 3 rfl) ?_
  refine lv_iload_n hx hb dL_law_1143 rfl (lv_at hl 0 rfl) ?_
  refine lv_iconst (v := 1) hx hb dL_law_1144 (by decide) ?_
  refine lv_iadd hx hb dL_law_1145 ?_
  refine lv_topi (fun y_1 ey_1 => ?_)
  obtain rfl : y_1 = 1 := ey_1.trans (by decide)
  refine va_sld hx hb hX hbl hbA hS (inr_ok rfl) dL_law_1146 ?_
  refine W.eq (g2 := F0 m 1147 ls [.int z1, .ref xo]) (by rw [ez1]; rfl) ?_
  have hPc := hP.sub (ws' := [(xo, .inr (11, [.ref xq1, .int 0, .ref xq3, .ref xq7, .ref xq12, .int 0, .int (-1), .ref xq14, .ref xq24, .ref xq34, .ref xq36, .ref xq38, .ref xq48, .ref xq51, .ref xq53, .ref xq55, .ref xq57, .ref xq59, .int 0])), (xq14, .inr (1, [.int 0, .int 0, .int 0, .ref xq16, .ref xq17, .ref xq18, .ref xq19])), (xq34, .inr (3, [.int 0, .int (-1), .int 0, .int 0, .int 0, .long 0])), (xq38, .inr (5, [.int 0, .ref xq40, .ref xq41, .ref xq42, .ref xq43])), (xq48, .inr (6, [.ref xq50, .int 0, .int 0]))]) [0, 1, 2, 3, 4] rfl
  have hDc := hD.sub (ws' := [(xo, .inr (11, [.ref xq1, .int 0, .ref xq3, .ref xq7, .ref xq12, .int 0, .int (-1), .ref xq14, .ref xq24, .ref xq34, .ref xq36, .ref xq38, .ref xq48, .ref xq51, .ref xq53, .ref xq55, .ref xq57, .ref xq59, .int 0])), (xq14, .inr (1, [.int 0, .int 0, .int 0, .ref xq16, .ref xq17, .ref xq18, .ref xq19])), (xq34, .inr (3, [.int 0, .int (-1), .int 0, .int 0, .int 0, .long 0])), (xq38, .inr (5, [.int 0, .ref xq40, .ref xq41, .ref xq42, .ref xq43])), (xq48, .inr (6, [.ref xq50, .int 0, .int 0]))]) [0, 1, 2, 3, 4] (by decide) rfl
  have hKc := hK.sub (tys' := []) [] rfl
  have hFc := va_free (wc := [(xo, .inr (11, [.ref xq1, .int 0, .ref xq3, .ref xq7, .ref xq12, .int 0, .int (-1), .ref xq14, .ref xq24, .ref xq34, .ref xq36, .ref xq38, .ref xq48, .ref xq51, .ref xq53, .ref xq55, .ref xq57, .ref xq59, .int 0])), (xq14, .inr (1, [.int 0, .int 0, .int 0, .ref xq16, .ref xq17, .ref xq18, .ref xq19])), (xq34, .inr (3, [.int 0, .int (-1), .int 0, .int 0, .int 0, .long 0])), (xq38, .inr (5, [.int 0, .ref xq40, .ref xq41, .ref xq42, .ref xq43])), (xq48, .inr (6, [.ref xq50, .int 0, .int 0]))]) hD hS hA [0, 1, 2, 3, 4] rfl
  refine va_calli (va_runV (As := [.int z1]) (rest := []) ⟨hx, hb, hml, hown, hq⟩ (c_SB_count l dC dI _ xo xq1 xq3 xq7 xq12 xq14 xq24 xq34 xq36 xq38 xq48 xq51 xq53 xq55 xq57 xq59 xq16 xq17 xq18 xq19 xq40 xq41 xq42 xq43 xq50 z1 ) (cwV 1 hq (gV qw_1134 qw_1135 qw_1136 qw_119 qw_1137) rfl rfl rfl (by decide +kernel) ⟨Nat.le_of_ble_eq_true rfl, Nat.le_of_ble_eq_true rfl⟩) ⟨fun a U g mk q => by obtain ⟨q0, q1, qP, qK, qD, qE⟩ := q; exact ⟨q0, q1, qP, va_K.moved (u := U) (U := U.calling g mk a) (Vm.Alike.refl U.vm) qK, qD, xE.same rfl qE⟩, va_recv hKc hPc (ci := 11) (q0 := 0) rfl rfl, fun U hU hW => ⟨rfl, by rw [hU], by rw [hU]; exact hPc, va_K.moved hW.alike hKc, hDc.weaken (fun _ _ _ _ => trivial), xE.warm hW hE⟩⟩ rfl rfl hl.1 rfl (lv_room (Nat.le_of_ble_eq_true rfl)) dL_law_1147 ⟨Nat.le_of_ble_eq_true rfl, Nat.le_of_ble_eq_true rfl⟩) hS (fun q _ h => hFc q h) hFc (fun r_2 u t H1 locs ht hvm hw hB hz1 hk1 hS => ?_)
  have hP1 : va_P (dC, dI) classes [] H1 := vP_nil
  have hD1 : va_D (va_A [(xo, .inr (11, [.ref xq1, .int 0, .ref xq3, .ref xq7, .ref xq12, .int 0, .int (-1), .ref xq14, .ref xq24, .ref xq34, .ref xq36, .ref xq38, .ref xq48, .ref xq51, .ref xq53, .ref xq55, .ref xq57, .ref xq59, .int 0])), (xq14, .inr (1, [.int 0, .int 0, .int 0, .ref xq16, .ref xq17, .ref xq18, .ref xq19])), (xq34, .inr (3, [.int 0, .int (-1), .int 0, .int 0, .int 0, .long 0])), (xq38, .inr (5, [.int 0, .ref xq40, .ref xq41, .ref xq42, .ref xq43])), (xq48, .inr (6, [.ref xq50, .int 0, .int 0]))] H.size) [] := vD_nil
  obtain ⟨hP, hD⟩ := va_join (wr := [(mo, .inr (12, [.ref mq1, .int 0, .int 0, .ref mq3, .ref mq5, .ref mq7, .ref mq9, .ref mq11, .int 0, .int 0, .int 0, .int 0, .int 0, .int 0, .int 0, .ref mq13, .int 0, .ref mq15, .int 0, .ref mq17, .ref mq19, .int (-1), .int 0, .int 0, .int 0, .int 0, .int 0, .ref mq21, .int 0, .ref mq23, .ref mq25, .ref mq27, .int 0, .int 0, .int 0, .ref mq29, .ref mq31, .ref mq33, .long 0, .ref mq35, .ref mq37, .ref mq39, .ref mq41])), (mq19, .inl (mk20, 100, .inl (fun _ => 0)))]) (w1 := []) hP hD [0, 1, 2, 3, 4] [5, 6] rfl rfl (by decide) (by decide) hk1 hFc hP1 hD1
  generalize H1 = H at hP hS ⊢
  have hP : va_P (dC, dI) classes [(mo, .inr (12, [.ref mq1, .int 0, .int 0, .ref mq3, .ref mq5, .ref mq7, .ref mq9, .ref mq11, .int 0, .int 0, .int 0, .int 0, .int 0, .int 0, .int 0, .ref mq13, .int 0, .ref mq15, .int 0, .ref mq17, .ref mq19, .int (-1), .int 0, .int 0, .int 0, .int 0, .int 0, .ref mq21, .int 0, .ref mq23, .ref mq25, .ref mq27, .int 0, .int 0, .int 0, .ref mq29, .ref mq31, .ref mq33, .long 0, .ref mq35, .ref mq37, .ref mq39, .ref mq41])), (mq19, .inl (mk20, 100, .inl (fun _ => 0)))] H := hP
  have hD : va_D A [(mo, .inr (12, [.ref mq1, .int 0, .int 0, .ref mq3, .ref mq5, .ref mq7, .ref mq9, .ref mq11, .int 0, .int 0, .int 0, .int 0, .int 0, .int 0, .int 0, .ref mq13, .int 0, .ref mq15, .int 0, .ref mq17, .ref mq19, .int (-1), .int 0, .int 0, .int 0, .int 0, .int 0, .ref mq21, .int 0, .ref mq23, .ref mq25, .ref mq27, .int 0, .int 0, .int 0, .ref mq29, .ref mq31, .ref mq33, .long 0, .ref mq35, .ref mq37, .ref mq39, .ref mq41])), (mq19, .inl (mk20, 100, .inl (fun _ => 0)))] := hD
  have hr_2 := hw
  refine lv_aload_n hx hb dL_law_1150 rfl (lv_at hl 1 rfl) ?_
  refine lv_aload_n hx hb dL_law_1151 rfl (lv_at hl 3 rfl) ?_
  refine lv_iload_n hx hb dL_law_1152 rfl (lv_at hl 0 rfl) ?_
  refine lv_iconst (v := 1) hx hb dL_law_1153 (by decide) ?_
  refine lv_iadd hx hb dL_law_1154 ?_
  refine lv_topi (fun y_3 ey_3 => ?_)
  obtain rfl : y_3 = 1 := ey_3.trans (by decide)
  refine va_sld hx hb hX hbl hbA hS (inr_ok rfl) dL_law_1155 ?_
  refine W.eq (g2 := F0 m 1156 ls [.int z1, .ref mo, .int r_2]) (by rw [ez1]; rfl) ?_
  have hPc := hP.sub (ws' := [(mo, .inr (12, [.ref mq1, .int 0, .int 0, .ref mq3, .ref mq5, .ref mq7, .ref mq9, .ref mq11, .int 0, .int 0, .int 0, .int 0, .int 0, .int 0, .int 0, .ref mq13, .int 0, .ref mq15, .int 0, .ref mq17, .ref mq19, .int (-1), .int 0, .int 0, .int 0, .int 0, .int 0, .ref mq21, .int 0, .ref mq23, .ref mq25, .ref mq27, .int 0, .int 0, .int 0, .ref mq29, .ref mq31, .ref mq33, .long 0, .ref mq35, .ref mq37, .ref mq39, .ref mq41])), (mq19, .inl (mk20, 100, .inl (fun _ => 0)))]) [0, 1] rfl
  have hDc := hD.sub (ws' := [(mo, .inr (12, [.ref mq1, .int 0, .int 0, .ref mq3, .ref mq5, .ref mq7, .ref mq9, .ref mq11, .int 0, .int 0, .int 0, .int 0, .int 0, .int 0, .int 0, .ref mq13, .int 0, .ref mq15, .int 0, .ref mq17, .ref mq19, .int (-1), .int 0, .int 0, .int 0, .int 0, .int 0, .ref mq21, .int 0, .ref mq23, .ref mq25, .ref mq27, .int 0, .int 0, .int 0, .ref mq29, .ref mq31, .ref mq33, .long 0, .ref mq35, .ref mq37, .ref mq39, .ref mq41])), (mq19, .inl (mk20, 100, .inl (fun _ => 0)))]) [0, 1] (by decide) rfl
  have hKc := hK.sub (tys' := [(mk20, .int)]) [0] rfl
  have hFc := va_free (wc := [(mo, .inr (12, [.ref mq1, .int 0, .int 0, .ref mq3, .ref mq5, .ref mq7, .ref mq9, .ref mq11, .int 0, .int 0, .int 0, .int 0, .int 0, .int 0, .int 0, .ref mq13, .int 0, .ref mq15, .int 0, .ref mq17, .ref mq19, .int (-1), .int 0, .int 0, .int 0, .int 0, .int 0, .ref mq21, .int 0, .ref mq23, .ref mq25, .ref mq27, .int 0, .int 0, .int 0, .ref mq29, .ref mq31, .ref mq33, .long 0, .ref mq35, .ref mq37, .ref mq39, .ref mq41])), (mq19, .inl (mk20, 100, .inl (fun _ => 0)))]) hD hS hA [0, 1] rfl
  refine va_calli (va_runV (As := [.int z1]) (rest := [.int r_2]) ⟨hx, hb, hml, hown, hq⟩ (c_M_count l dC dI _ mo mq1 mq3 mq5 mq7 mq9 mq11 mq13 mq15 mq17 mq19 mq21 mq23 mq25 mq27 mq29 mq31 mq33 mq35 mq37 mq39 mq41 mk20 z1 ) (cwV 1 hq (gV qw_1786 qw_1787 qw_1788 qw_131 qw_1789) rfl rfl rfl (by decide +kernel) ⟨Nat.le_of_ble_eq_true rfl, Nat.le_of_ble_eq_true rfl⟩) ⟨fun a U g mk q => by obtain ⟨q0, q1, qP, qK, qD, qE⟩ := q; exact ⟨q0, q1, qP, va_K.moved (u := U) (U := U.calling g mk a) (Vm.Alike.refl U.vm) qK, qD, xE.same rfl qE⟩, va_recv hKc hPc (ci := 12) (q0 := 0) rfl rfl, fun U hU hW => ⟨rfl, by rw [hU], by rw [hU]; exact hPc, va_K.moved hW.alike hKc, hDc.weaken (fun _ _ _ _ => trivial), xE.warm hW hE⟩⟩ rfl rfl hl.1 rfl (lv_room (Nat.le_of_ble_eq_true rfl)) dL_law_1156 ⟨Nat.le_of_ble_eq_true rfl, Nat.le_of_ble_eq_true rfl⟩) hS (fun q _ h => hFc q h) hFc (fun r_4 u t H1 locs ht hvm hw hB hz1 hk1 hS => ?_)
  have hP1 : va_P (dC, dI) classes [] H1 := vP_nil
  have hD1 : va_D (va_A [(mo, .inr (12, [.ref mq1, .int 0, .int 0, .ref mq3, .ref mq5, .ref mq7, .ref mq9, .ref mq11, .int 0, .int 0, .int 0, .int 0, .int 0, .int 0, .int 0, .ref mq13, .int 0, .ref mq15, .int 0, .ref mq17, .ref mq19, .int (-1), .int 0, .int 0, .int 0, .int 0, .int 0, .ref mq21, .int 0, .ref mq23, .ref mq25, .ref mq27, .int 0, .int 0, .int 0, .ref mq29, .ref mq31, .ref mq33, .long 0, .ref mq35, .ref mq37, .ref mq39, .ref mq41])), (mq19, .inl (mk20, 100, .inl (fun _ => 0)))] H.size) [] := vD_nil
  obtain ⟨hP, hD⟩ := va_join (wr := []) (w1 := []) hP hD [0, 1] [] rfl rfl (by decide) (by decide) hk1 hFc hP1 hD1
  generalize H1 = H at hP hS ⊢
  have hP : va_P (dC, dI) classes [] H := hP
  have hD : va_D A [] := hD
  have hr_4 := hw
  refine lv_icmp_eq (tgt := 1210) hx hb dL_law_1159 (by decide) (fun _ => ?_) (fun c9 => absurd (hr_2.trans hr_4.symm) c9)
  exact law_end C0 hAq hS (lv_sub hl [0, 1, 2, 3] rfl)
