theorem dL_law_27 : decode cL_law 27 = .ok (.aload_n 0, 1) := by decide +kernel
theorem dL_law_28 : decode cL_law 28 = .ok (.iload_n 3, 1) := by decide +kernel
theorem dL_law_29 : decode cL_law 29 = .ok (.iaload, 1) := by decide +kernel
theorem dL_law_30 : decode cL_law 30 = .ok (.bipush 63, 2) := by decide +kernel
theorem dL_law_32 : decode cL_law 32 = .ok (.iand, 1) := by decide +kernel
theorem dL_law_33 : decode cL_law 33 = .ok (.tableswitch 1177 0 35 #[159, 222, 245, 258, 271, 294, 327, 360, 383, 406, 419, 442, 465, 488, 521, 534, 577, 600, 613, 636, 669, 702, 725, 748, 771, 804, 857, 890, 923, 976, 999, 1032, 1055, 1108, 1131, 1154], 159) := by decide +kernel
set_option maxHeartbeats 4000000 in
set_option maxRecDepth 100000 in
theorem law_switch {p : Program} {l : Launch} {e : Env} {R : Room} {s : State} {m : MethodId} {args : Array Value} {below : List Frame} {meth : Method} {c : Code} {H : Heap} {locs : List Loc} {cells slots : Nat} {Q : State → Prop} {ls : Array Slot} (hx : p.tables.exec = Jvm.exec) (hb : c.code = cL_law) (y : Int32)
    (h0 : W p l e R s m args below meth c H locs cells slots Q (F0 m 192 ls []))
    (h1 : W p l e R s m args below meth c H locs cells slots Q (F0 m 255 ls []))
    (h2 : W p l e R s m args below meth c H locs cells slots Q (F0 m 278 ls []))
    (h3 : W p l e R s m args below meth c H locs cells slots Q (F0 m 291 ls []))
    (h4 : W p l e R s m args below meth c H locs cells slots Q (F0 m 304 ls []))
    (h5 : W p l e R s m args below meth c H locs cells slots Q (F0 m 327 ls []))
    (h6 : W p l e R s m args below meth c H locs cells slots Q (F0 m 360 ls []))
    (h7 : W p l e R s m args below meth c H locs cells slots Q (F0 m 393 ls []))
    (h8 : W p l e R s m args below meth c H locs cells slots Q (F0 m 416 ls []))
    (h9 : W p l e R s m args below meth c H locs cells slots Q (F0 m 439 ls []))
    (h10 : W p l e R s m args below meth c H locs cells slots Q (F0 m 452 ls []))
    (h11 : W p l e R s m args below meth c H locs cells slots Q (F0 m 475 ls []))
    (h12 : W p l e R s m args below meth c H locs cells slots Q (F0 m 498 ls []))
    (h13 : W p l e R s m args below meth c H locs cells slots Q (F0 m 521 ls []))
    (h14 : W p l e R s m args below meth c H locs cells slots Q (F0 m 554 ls []))
    (h15 : W p l e R s m args below meth c H locs cells slots Q (F0 m 567 ls []))
    (h16 : W p l e R s m args below meth c H locs cells slots Q (F0 m 610 ls []))
    (h17 : W p l e R s m args below meth c H locs cells slots Q (F0 m 633 ls []))
    (h18 : W p l e R s m args below meth c H locs cells slots Q (F0 m 646 ls []))
    (h19 : W p l e R s m args below meth c H locs cells slots Q (F0 m 669 ls []))
    (h20 : W p l e R s m args below meth c H locs cells slots Q (F0 m 702 ls []))
    (h21 : W p l e R s m args below meth c H locs cells slots Q (F0 m 735 ls []))
    (h22 : W p l e R s m args below meth c H locs cells slots Q (F0 m 758 ls []))
    (h23 : W p l e R s m args below meth c H locs cells slots Q (F0 m 781 ls []))
    (h24 : W p l e R s m args below meth c H locs cells slots Q (F0 m 804 ls []))
    (h25 : W p l e R s m args below meth c H locs cells slots Q (F0 m 837 ls []))
    (h26 : W p l e R s m args below meth c H locs cells slots Q (F0 m 890 ls []))
    (h27 : W p l e R s m args below meth c H locs cells slots Q (F0 m 923 ls []))
    (h28 : W p l e R s m args below meth c H locs cells slots Q (F0 m 956 ls []))
    (h29 : W p l e R s m args below meth c H locs cells slots Q (F0 m 1009 ls []))
    (h30 : W p l e R s m args below meth c H locs cells slots Q (F0 m 1032 ls []))
    (h31 : W p l e R s m args below meth c H locs cells slots Q (F0 m 1065 ls []))
    (h32 : W p l e R s m args below meth c H locs cells slots Q (F0 m 1088 ls []))
    (h33 : W p l e R s m args below meth c H locs cells slots Q (F0 m 1141 ls []))
    (h34 : W p l e R s m args below meth c H locs cells slots Q (F0 m 1164 ls []))
    (h35 : W p l e R s m args below meth c H locs cells slots Q (F0 m 1187 ls []))
    (hd : W p l e R s m args below meth c H locs cells slots Q (F0 m 1210 ls [])) : W p l e R s m args below meth c H locs cells slots Q (F0 m 33 ls [.int y]) := by
  rcases c36 y with rfl | rfl | rfl | rfl | rfl | rfl | rfl | rfl | rfl | rfl | rfl | rfl | rfl | rfl | rfl | rfl | rfl | rfl | rfl | rfl | rfl | rfl | rfl | rfl | rfl | rfl | rfl | rfl | rfl | rfl | rfl | rfl | rfl | rfl | rfl | rfl | hout
  · exact lv_tableIn (tgt := 192) hx hb dL_law_33 (by decide) (by decide) (off := 159) (by decide) (by decide) h0
  · exact lv_tableIn (tgt := 255) hx hb dL_law_33 (by decide) (by decide) (off := 222) (by decide) (by decide) h1
  · exact lv_tableIn (tgt := 278) hx hb dL_law_33 (by decide) (by decide) (off := 245) (by decide) (by decide) h2
  · exact lv_tableIn (tgt := 291) hx hb dL_law_33 (by decide) (by decide) (off := 258) (by decide) (by decide) h3
  · exact lv_tableIn (tgt := 304) hx hb dL_law_33 (by decide) (by decide) (off := 271) (by decide) (by decide) h4
  · exact lv_tableIn (tgt := 327) hx hb dL_law_33 (by decide) (by decide) (off := 294) (by decide) (by decide) h5
  · exact lv_tableIn (tgt := 360) hx hb dL_law_33 (by decide) (by decide) (off := 327) (by decide) (by decide) h6
  · exact lv_tableIn (tgt := 393) hx hb dL_law_33 (by decide) (by decide) (off := 360) (by decide) (by decide) h7
  · exact lv_tableIn (tgt := 416) hx hb dL_law_33 (by decide) (by decide) (off := 383) (by decide) (by decide) h8
  · exact lv_tableIn (tgt := 439) hx hb dL_law_33 (by decide) (by decide) (off := 406) (by decide) (by decide) h9
  · exact lv_tableIn (tgt := 452) hx hb dL_law_33 (by decide) (by decide) (off := 419) (by decide) (by decide) h10
  · exact lv_tableIn (tgt := 475) hx hb dL_law_33 (by decide) (by decide) (off := 442) (by decide) (by decide) h11
  · exact lv_tableIn (tgt := 498) hx hb dL_law_33 (by decide) (by decide) (off := 465) (by decide) (by decide) h12
  · exact lv_tableIn (tgt := 521) hx hb dL_law_33 (by decide) (by decide) (off := 488) (by decide) (by decide) h13
  · exact lv_tableIn (tgt := 554) hx hb dL_law_33 (by decide) (by decide) (off := 521) (by decide) (by decide) h14
  · exact lv_tableIn (tgt := 567) hx hb dL_law_33 (by decide) (by decide) (off := 534) (by decide) (by decide) h15
  · exact lv_tableIn (tgt := 610) hx hb dL_law_33 (by decide) (by decide) (off := 577) (by decide) (by decide) h16
  · exact lv_tableIn (tgt := 633) hx hb dL_law_33 (by decide) (by decide) (off := 600) (by decide) (by decide) h17
  · exact lv_tableIn (tgt := 646) hx hb dL_law_33 (by decide) (by decide) (off := 613) (by decide) (by decide) h18
  · exact lv_tableIn (tgt := 669) hx hb dL_law_33 (by decide) (by decide) (off := 636) (by decide) (by decide) h19
  · exact lv_tableIn (tgt := 702) hx hb dL_law_33 (by decide) (by decide) (off := 669) (by decide) (by decide) h20
  · exact lv_tableIn (tgt := 735) hx hb dL_law_33 (by decide) (by decide) (off := 702) (by decide) (by decide) h21
  · exact lv_tableIn (tgt := 758) hx hb dL_law_33 (by decide) (by decide) (off := 725) (by decide) (by decide) h22
  · exact lv_tableIn (tgt := 781) hx hb dL_law_33 (by decide) (by decide) (off := 748) (by decide) (by decide) h23
  · exact lv_tableIn (tgt := 804) hx hb dL_law_33 (by decide) (by decide) (off := 771) (by decide) (by decide) h24
  · exact lv_tableIn (tgt := 837) hx hb dL_law_33 (by decide) (by decide) (off := 804) (by decide) (by decide) h25
  · exact lv_tableIn (tgt := 890) hx hb dL_law_33 (by decide) (by decide) (off := 857) (by decide) (by decide) h26
  · exact lv_tableIn (tgt := 923) hx hb dL_law_33 (by decide) (by decide) (off := 890) (by decide) (by decide) h27
  · exact lv_tableIn (tgt := 956) hx hb dL_law_33 (by decide) (by decide) (off := 923) (by decide) (by decide) h28
  · exact lv_tableIn (tgt := 1009) hx hb dL_law_33 (by decide) (by decide) (off := 976) (by decide) (by decide) h29
  · exact lv_tableIn (tgt := 1032) hx hb dL_law_33 (by decide) (by decide) (off := 999) (by decide) (by decide) h30
  · exact lv_tableIn (tgt := 1065) hx hb dL_law_33 (by decide) (by decide) (off := 1032) (by decide) (by decide) h31
  · exact lv_tableIn (tgt := 1088) hx hb dL_law_33 (by decide) (by decide) (off := 1055) (by decide) (by decide) h32
  · exact lv_tableIn (tgt := 1141) hx hb dL_law_33 (by decide) (by decide) (off := 1108) (by decide) (by decide) h33
  · exact lv_tableIn (tgt := 1164) hx hb dL_law_33 (by decide) (by decide) (off := 1131) (by decide) (by decide) h34
  · exact lv_tableIn (tgt := 1187) hx hb dL_law_33 (by decide) (by decide) (off := 1154) (by decide) (by decide) h35
  · exact lv_tableOut (tgt := 1210) hx hb dL_law_33 hout (by decide) hd
set_option maxHeartbeats 4000000 in
set_option maxRecDepth 100000 in
theorem law_short_0 {p : Program} {l : Launch} {e : Env} {s : State} {m : MethodId} {below : List Frame} {meth : Method} {c : Code} {A : Nat → Prop} {b : Nat} {xs : Nat → Int32} (C0 : lw_At p s m meth c b 0 xs) (hAq : ∀ q : Nat, A q → s.heap.size ≤ q) {H : Heap} {locs : List Loc} (hS : va_S A s.heap H locs) {ls : Array Slot} {mo xo : Nat} (hl : lv_has ls 4 [(3, .int 0), (2, .ref mo), (1, .ref xo), (0, .ref b)]) : W p l e room_1 s m #[Value.ref b] below meth c H locs 152 8829 (lw_Z below #[Value.ref b] s) (F0 m 18 ls []) := by
  obtain ⟨hx, hb, hr, hml, hown, hts, hX, hbl, hlocks, hgv⟩ := id C0
  have hown : s.vm.findClass RL = some m.cls := hown
  have hq : ∀ w ∈ wsA, w.before _ s = true := fun w h => hts w (List.mem_filter.mp h).1
  have hbA : ¬ A b := fun h => Nat.not_le.mpr hbl (hAq b h)
  refine lv_iload_n hx hb dL_law_18 rfl (lv_at hl 0 rfl) ?_
  refine lv_aload_n hx hb dL_law_19 rfl (lv_at hl 3 rfl) ?_
  refine va_slen hx hb hX hbl hbA hS dL_law_20 ?_
  refine lv_topi (fun y_1 ey_1 => ?_)
  obtain rfl : y_1 = 0 := ey_1.trans (by decide)
  refine lv_bipush (v := 6) hx hb dL_law_21 (by decide) ?_
  refine lv_isub hx hb dL_law_23 ?_
  refine lv_topi (fun y_2 ey_2 => ?_)
  obtain rfl : y_2 = (-6) := ey_2.trans (by decide)
  refine lv_icmp_gt (tgt := 1216) hx hb dL_law_24 (by decide) (fun _ => ?_) (fun c9 => absurd c9 (by decide))
  refine lv_iconst (v := 1) hx hb dL_law_1216 (by decide) ?_
  refine va_forget (fun q hq => hAq _ (hS.2.2 q hq)) ?_
  refine W.widen (k := 600000) (n := 7302250) (Nat.le_of_ble_eq_true rfl) (Nat.le_of_ble_eq_true rfl) ?_
  exact lw_ret hx hb hr hlocks dL_law_1217
set_option maxHeartbeats 4000000 in
set_option maxRecDepth 100000 in
theorem law_short_1 {p : Program} {l : Launch} {e : Env} {s : State} {m : MethodId} {below : List Frame} {meth : Method} {c : Code} {A : Nat → Prop} {b : Nat} {xs : Nat → Int32} (C0 : lw_At p s m meth c b 1 xs) (hAq : ∀ q : Nat, A q → s.heap.size ≤ q) {H : Heap} {locs : List Loc} (hS : va_S A s.heap H locs) {ls : Array Slot} {mo xo : Nat} (hl : lv_has ls 4 [(3, .int 0), (2, .ref mo), (1, .ref xo), (0, .ref b)]) : W p l e room_1 s m #[Value.ref b] below meth c H locs 152 8829 (lw_Z below #[Value.ref b] s) (F0 m 18 ls []) := by
  obtain ⟨hx, hb, hr, hml, hown, hts, hX, hbl, hlocks, hgv⟩ := id C0
  have hown : s.vm.findClass RL = some m.cls := hown
  have hq : ∀ w ∈ wsA, w.before _ s = true := fun w h => hts w (List.mem_filter.mp h).1
  have hbA : ¬ A b := fun h => Nat.not_le.mpr hbl (hAq b h)
  refine lv_iload_n hx hb dL_law_18 rfl (lv_at hl 0 rfl) ?_
  refine lv_aload_n hx hb dL_law_19 rfl (lv_at hl 3 rfl) ?_
  refine va_slen hx hb hX hbl hbA hS dL_law_20 ?_
  refine lv_topi (fun y_1 ey_1 => ?_)
  obtain rfl : y_1 = 1 := ey_1.trans (by decide)
  refine lv_bipush (v := 6) hx hb dL_law_21 (by decide) ?_
  refine lv_isub hx hb dL_law_23 ?_
  refine lv_topi (fun y_2 ey_2 => ?_)
  obtain rfl : y_2 = (-5) := ey_2.trans (by decide)
  refine lv_icmp_gt (tgt := 1216) hx hb dL_law_24 (by decide) (fun _ => ?_) (fun c9 => absurd c9 (by decide))
  refine lv_iconst (v := 1) hx hb dL_law_1216 (by decide) ?_
  refine va_forget (fun q hq => hAq _ (hS.2.2 q hq)) ?_
  refine W.widen (k := 600000) (n := 7302250) (Nat.le_of_ble_eq_true rfl) (Nat.le_of_ble_eq_true rfl) ?_
  exact lw_ret hx hb hr hlocks dL_law_1217
set_option maxHeartbeats 4000000 in
set_option maxRecDepth 100000 in
theorem law_short_2 {p : Program} {l : Launch} {e : Env} {s : State} {m : MethodId} {below : List Frame} {meth : Method} {c : Code} {A : Nat → Prop} {b : Nat} {xs : Nat → Int32} (C0 : lw_At p s m meth c b 2 xs) (hAq : ∀ q : Nat, A q → s.heap.size ≤ q) {H : Heap} {locs : List Loc} (hS : va_S A s.heap H locs) {ls : Array Slot} {mo xo : Nat} (hl : lv_has ls 4 [(3, .int 0), (2, .ref mo), (1, .ref xo), (0, .ref b)]) : W p l e room_1 s m #[Value.ref b] below meth c H locs 152 8829 (lw_Z below #[Value.ref b] s) (F0 m 18 ls []) := by
  obtain ⟨hx, hb, hr, hml, hown, hts, hX, hbl, hlocks, hgv⟩ := id C0
  have hown : s.vm.findClass RL = some m.cls := hown
  have hq : ∀ w ∈ wsA, w.before _ s = true := fun w h => hts w (List.mem_filter.mp h).1
  have hbA : ¬ A b := fun h => Nat.not_le.mpr hbl (hAq b h)
  refine lv_iload_n hx hb dL_law_18 rfl (lv_at hl 0 rfl) ?_
  refine lv_aload_n hx hb dL_law_19 rfl (lv_at hl 3 rfl) ?_
  refine va_slen hx hb hX hbl hbA hS dL_law_20 ?_
  refine lv_topi (fun y_1 ey_1 => ?_)
  obtain rfl : y_1 = 2 := ey_1.trans (by decide)
  refine lv_bipush (v := 6) hx hb dL_law_21 (by decide) ?_
  refine lv_isub hx hb dL_law_23 ?_
  refine lv_topi (fun y_2 ey_2 => ?_)
  obtain rfl : y_2 = (-4) := ey_2.trans (by decide)
  refine lv_icmp_gt (tgt := 1216) hx hb dL_law_24 (by decide) (fun _ => ?_) (fun c9 => absurd c9 (by decide))
  refine lv_iconst (v := 1) hx hb dL_law_1216 (by decide) ?_
  refine va_forget (fun q hq => hAq _ (hS.2.2 q hq)) ?_
  refine W.widen (k := 600000) (n := 7302250) (Nat.le_of_ble_eq_true rfl) (Nat.le_of_ble_eq_true rfl) ?_
  exact lw_ret hx hb hr hlocks dL_law_1217
set_option maxHeartbeats 4000000 in
set_option maxRecDepth 100000 in
theorem law_short_3 {p : Program} {l : Launch} {e : Env} {s : State} {m : MethodId} {below : List Frame} {meth : Method} {c : Code} {A : Nat → Prop} {b : Nat} {xs : Nat → Int32} (C0 : lw_At p s m meth c b 3 xs) (hAq : ∀ q : Nat, A q → s.heap.size ≤ q) {H : Heap} {locs : List Loc} (hS : va_S A s.heap H locs) {ls : Array Slot} {mo xo : Nat} (hl : lv_has ls 4 [(3, .int 0), (2, .ref mo), (1, .ref xo), (0, .ref b)]) : W p l e room_1 s m #[Value.ref b] below meth c H locs 152 8829 (lw_Z below #[Value.ref b] s) (F0 m 18 ls []) := by
  obtain ⟨hx, hb, hr, hml, hown, hts, hX, hbl, hlocks, hgv⟩ := id C0
  have hown : s.vm.findClass RL = some m.cls := hown
  have hq : ∀ w ∈ wsA, w.before _ s = true := fun w h => hts w (List.mem_filter.mp h).1
  have hbA : ¬ A b := fun h => Nat.not_le.mpr hbl (hAq b h)
  refine lv_iload_n hx hb dL_law_18 rfl (lv_at hl 0 rfl) ?_
  refine lv_aload_n hx hb dL_law_19 rfl (lv_at hl 3 rfl) ?_
  refine va_slen hx hb hX hbl hbA hS dL_law_20 ?_
  refine lv_topi (fun y_1 ey_1 => ?_)
  obtain rfl : y_1 = 3 := ey_1.trans (by decide)
  refine lv_bipush (v := 6) hx hb dL_law_21 (by decide) ?_
  refine lv_isub hx hb dL_law_23 ?_
  refine lv_topi (fun y_2 ey_2 => ?_)
  obtain rfl : y_2 = (-3) := ey_2.trans (by decide)
  refine lv_icmp_gt (tgt := 1216) hx hb dL_law_24 (by decide) (fun _ => ?_) (fun c9 => absurd c9 (by decide))
  refine lv_iconst (v := 1) hx hb dL_law_1216 (by decide) ?_
  refine va_forget (fun q hq => hAq _ (hS.2.2 q hq)) ?_
  refine W.widen (k := 600000) (n := 7302250) (Nat.le_of_ble_eq_true rfl) (Nat.le_of_ble_eq_true rfl) ?_
  exact lw_ret hx hb hr hlocks dL_law_1217
set_option maxHeartbeats 4000000 in
set_option maxRecDepth 100000 in
theorem law_short_4 {p : Program} {l : Launch} {e : Env} {s : State} {m : MethodId} {below : List Frame} {meth : Method} {c : Code} {A : Nat → Prop} {b : Nat} {xs : Nat → Int32} (C0 : lw_At p s m meth c b 4 xs) (hAq : ∀ q : Nat, A q → s.heap.size ≤ q) {H : Heap} {locs : List Loc} (hS : va_S A s.heap H locs) {ls : Array Slot} {mo xo : Nat} (hl : lv_has ls 4 [(3, .int 0), (2, .ref mo), (1, .ref xo), (0, .ref b)]) : W p l e room_1 s m #[Value.ref b] below meth c H locs 152 8829 (lw_Z below #[Value.ref b] s) (F0 m 18 ls []) := by
  obtain ⟨hx, hb, hr, hml, hown, hts, hX, hbl, hlocks, hgv⟩ := id C0
  have hown : s.vm.findClass RL = some m.cls := hown
  have hq : ∀ w ∈ wsA, w.before _ s = true := fun w h => hts w (List.mem_filter.mp h).1
  have hbA : ¬ A b := fun h => Nat.not_le.mpr hbl (hAq b h)
  refine lv_iload_n hx hb dL_law_18 rfl (lv_at hl 0 rfl) ?_
  refine lv_aload_n hx hb dL_law_19 rfl (lv_at hl 3 rfl) ?_
  refine va_slen hx hb hX hbl hbA hS dL_law_20 ?_
  refine lv_topi (fun y_1 ey_1 => ?_)
  obtain rfl : y_1 = 4 := ey_1.trans (by decide)
  refine lv_bipush (v := 6) hx hb dL_law_21 (by decide) ?_
  refine lv_isub hx hb dL_law_23 ?_
  refine lv_topi (fun y_2 ey_2 => ?_)
  obtain rfl : y_2 = (-2) := ey_2.trans (by decide)
  refine lv_icmp_gt (tgt := 1216) hx hb dL_law_24 (by decide) (fun _ => ?_) (fun c9 => absurd c9 (by decide))
  refine lv_iconst (v := 1) hx hb dL_law_1216 (by decide) ?_
  refine va_forget (fun q hq => hAq _ (hS.2.2 q hq)) ?_
  refine W.widen (k := 600000) (n := 7302250) (Nat.le_of_ble_eq_true rfl) (Nat.le_of_ble_eq_true rfl) ?_
  exact lw_ret hx hb hr hlocks dL_law_1217
set_option maxHeartbeats 4000000 in
set_option maxRecDepth 100000 in
theorem law_short_5 {p : Program} {l : Launch} {e : Env} {s : State} {m : MethodId} {below : List Frame} {meth : Method} {c : Code} {A : Nat → Prop} {b : Nat} {xs : Nat → Int32} (C0 : lw_At p s m meth c b 5 xs) (hAq : ∀ q : Nat, A q → s.heap.size ≤ q) {H : Heap} {locs : List Loc} (hS : va_S A s.heap H locs) {ls : Array Slot} {mo xo : Nat} (hl : lv_has ls 4 [(3, .int 0), (2, .ref mo), (1, .ref xo), (0, .ref b)]) : W p l e room_1 s m #[Value.ref b] below meth c H locs 152 8829 (lw_Z below #[Value.ref b] s) (F0 m 18 ls []) := by
  obtain ⟨hx, hb, hr, hml, hown, hts, hX, hbl, hlocks, hgv⟩ := id C0
  have hown : s.vm.findClass RL = some m.cls := hown
  have hq : ∀ w ∈ wsA, w.before _ s = true := fun w h => hts w (List.mem_filter.mp h).1
  have hbA : ¬ A b := fun h => Nat.not_le.mpr hbl (hAq b h)
  refine lv_iload_n hx hb dL_law_18 rfl (lv_at hl 0 rfl) ?_
  refine lv_aload_n hx hb dL_law_19 rfl (lv_at hl 3 rfl) ?_
  refine va_slen hx hb hX hbl hbA hS dL_law_20 ?_
  refine lv_topi (fun y_1 ey_1 => ?_)
  obtain rfl : y_1 = 5 := ey_1.trans (by decide)
  refine lv_bipush (v := 6) hx hb dL_law_21 (by decide) ?_
  refine lv_isub hx hb dL_law_23 ?_
  refine lv_topi (fun y_2 ey_2 => ?_)
  obtain rfl : y_2 = (-1) := ey_2.trans (by decide)
  refine lv_icmp_gt (tgt := 1216) hx hb dL_law_24 (by decide) (fun _ => ?_) (fun c9 => absurd c9 (by decide))
  refine lv_iconst (v := 1) hx hb dL_law_1216 (by decide) ?_
  refine va_forget (fun q hq => hAq _ (hS.2.2 q hq)) ?_
  refine W.widen (k := 600000) (n := 7302250) (Nat.le_of_ble_eq_true rfl) (Nat.le_of_ble_eq_true rfl) ?_
  exact lw_ret hx hb hr hlocks dL_law_1217
theorem c7 {L : Nat} (h : L ≤ 6) : L = 0 ∨ L = 1 ∨ L = 2 ∨ L = 3 ∨ L = 4 ∨ L = 5 ∨ L = 6 := by omega
set_option maxHeartbeats 4000000 in
set_option maxRecDepth 100000 in
theorem law_full {p : Program} {l : Launch} {e : Env} {s : State} {m : MethodId} {below : List Frame} {meth : Method} {c : Code} {A : Nat → Prop} {b : Nat} {xs : Nat → Int32} (C0 : lw_At p s m meth c b 6 xs) (hAq : ∀ q : Nat, A q → s.heap.size ≤ q) {H : Heap} {locs : List Loc} (hS : va_S A s.heap H locs) {ls : Array Slot} {mo xo : Nat} (hl : lv_has ls 4 [(3, .int 0), (2, .ref mo), (1, .ref xo), (0, .ref b)])
    (h0 : W p l e room_1 s m #[Value.ref b] below meth c H locs 152 8829 (lw_Z below #[Value.ref b] s) (F0 m 192 ls []))
    (h1 : W p l e room_1 s m #[Value.ref b] below meth c H locs 152 8829 (lw_Z below #[Value.ref b] s) (F0 m 255 ls []))
    (h2 : W p l e room_1 s m #[Value.ref b] below meth c H locs 152 8829 (lw_Z below #[Value.ref b] s) (F0 m 278 ls []))
    (h3 : W p l e room_1 s m #[Value.ref b] below meth c H locs 152 8829 (lw_Z below #[Value.ref b] s) (F0 m 291 ls []))
    (h4 : W p l e room_1 s m #[Value.ref b] below meth c H locs 152 8829 (lw_Z below #[Value.ref b] s) (F0 m 304 ls []))
    (h5 : W p l e room_1 s m #[Value.ref b] below meth c H locs 152 8829 (lw_Z below #[Value.ref b] s) (F0 m 327 ls []))
    (h6 : W p l e room_1 s m #[Value.ref b] below meth c H locs 152 8829 (lw_Z below #[Value.ref b] s) (F0 m 360 ls []))
    (h7 : W p l e room_1 s m #[Value.ref b] below meth c H locs 152 8829 (lw_Z below #[Value.ref b] s) (F0 m 393 ls []))
    (h8 : W p l e room_1 s m #[Value.ref b] below meth c H locs 152 8829 (lw_Z below #[Value.ref b] s) (F0 m 416 ls []))
    (h9 : W p l e room_1 s m #[Value.ref b] below meth c H locs 152 8829 (lw_Z below #[Value.ref b] s) (F0 m 439 ls []))
    (h10 : W p l e room_1 s m #[Value.ref b] below meth c H locs 152 8829 (lw_Z below #[Value.ref b] s) (F0 m 452 ls []))
    (h11 : W p l e room_1 s m #[Value.ref b] below meth c H locs 152 8829 (lw_Z below #[Value.ref b] s) (F0 m 475 ls []))
    (h12 : W p l e room_1 s m #[Value.ref b] below meth c H locs 152 8829 (lw_Z below #[Value.ref b] s) (F0 m 498 ls []))
    (h13 : W p l e room_1 s m #[Value.ref b] below meth c H locs 152 8829 (lw_Z below #[Value.ref b] s) (F0 m 521 ls []))
    (h14 : W p l e room_1 s m #[Value.ref b] below meth c H locs 152 8829 (lw_Z below #[Value.ref b] s) (F0 m 554 ls []))
    (h15 : W p l e room_1 s m #[Value.ref b] below meth c H locs 152 8829 (lw_Z below #[Value.ref b] s) (F0 m 567 ls []))
    (h16 : W p l e room_1 s m #[Value.ref b] below meth c H locs 152 8829 (lw_Z below #[Value.ref b] s) (F0 m 610 ls []))
    (h17 : W p l e room_1 s m #[Value.ref b] below meth c H locs 152 8829 (lw_Z below #[Value.ref b] s) (F0 m 633 ls []))
    (h18 : W p l e room_1 s m #[Value.ref b] below meth c H locs 152 8829 (lw_Z below #[Value.ref b] s) (F0 m 646 ls []))
    (h19 : W p l e room_1 s m #[Value.ref b] below meth c H locs 152 8829 (lw_Z below #[Value.ref b] s) (F0 m 669 ls []))
    (h20 : W p l e room_1 s m #[Value.ref b] below meth c H locs 152 8829 (lw_Z below #[Value.ref b] s) (F0 m 702 ls []))
    (h21 : W p l e room_1 s m #[Value.ref b] below meth c H locs 152 8829 (lw_Z below #[Value.ref b] s) (F0 m 735 ls []))
    (h22 : W p l e room_1 s m #[Value.ref b] below meth c H locs 152 8829 (lw_Z below #[Value.ref b] s) (F0 m 758 ls []))
    (h23 : W p l e room_1 s m #[Value.ref b] below meth c H locs 152 8829 (lw_Z below #[Value.ref b] s) (F0 m 781 ls []))
    (h24 : W p l e room_1 s m #[Value.ref b] below meth c H locs 152 8829 (lw_Z below #[Value.ref b] s) (F0 m 804 ls []))
    (h25 : W p l e room_1 s m #[Value.ref b] below meth c H locs 152 8829 (lw_Z below #[Value.ref b] s) (F0 m 837 ls []))
    (h26 : W p l e room_1 s m #[Value.ref b] below meth c H locs 152 8829 (lw_Z below #[Value.ref b] s) (F0 m 890 ls []))
    (h27 : W p l e room_1 s m #[Value.ref b] below meth c H locs 152 8829 (lw_Z below #[Value.ref b] s) (F0 m 923 ls []))
    (h28 : W p l e room_1 s m #[Value.ref b] below meth c H locs 152 8829 (lw_Z below #[Value.ref b] s) (F0 m 956 ls []))
    (h29 : W p l e room_1 s m #[Value.ref b] below meth c H locs 152 8829 (lw_Z below #[Value.ref b] s) (F0 m 1009 ls []))
    (h30 : W p l e room_1 s m #[Value.ref b] below meth c H locs 152 8829 (lw_Z below #[Value.ref b] s) (F0 m 1032 ls []))
    (h31 : W p l e room_1 s m #[Value.ref b] below meth c H locs 152 8829 (lw_Z below #[Value.ref b] s) (F0 m 1065 ls []))
    (h32 : W p l e room_1 s m #[Value.ref b] below meth c H locs 152 8829 (lw_Z below #[Value.ref b] s) (F0 m 1088 ls []))
    (h33 : W p l e room_1 s m #[Value.ref b] below meth c H locs 152 8829 (lw_Z below #[Value.ref b] s) (F0 m 1141 ls []))
    (h34 : W p l e room_1 s m #[Value.ref b] below meth c H locs 152 8829 (lw_Z below #[Value.ref b] s) (F0 m 1164 ls []))
    (h35 : W p l e room_1 s m #[Value.ref b] below meth c H locs 152 8829 (lw_Z below #[Value.ref b] s) (F0 m 1187 ls []))
    (hd : W p l e room_1 s m #[Value.ref b] below meth c H locs 152 8829 (lw_Z below #[Value.ref b] s) (F0 m 1210 ls [])) : W p l e room_1 s m #[Value.ref b] below meth c H locs 152 8829 (lw_Z below #[Value.ref b] s) (F0 m 18 ls []) := by
  obtain ⟨hx, hb, hr, hml, hown, hts, hX, hbl, hlocks, hgv⟩ := id C0
  have hown : s.vm.findClass RL = some m.cls := hown
  have hq : ∀ w ∈ wsA, w.before _ s = true := fun w h => hts w (List.mem_filter.mp h).1
  have hbA : ¬ A b := fun h => Nat.not_le.mpr hbl (hAq b h)
  refine lv_iload_n hx hb dL_law_18 rfl (lv_at hl 0 rfl) ?_
  refine lv_aload_n hx hb dL_law_19 rfl (lv_at hl 3 rfl) ?_
  refine va_slen hx hb hX hbl hbA hS dL_law_20 ?_
  refine lv_topi (fun y_1 ey_1 => ?_)
  obtain rfl : y_1 = 6 := ey_1.trans (by decide)
  refine lv_bipush (v := 6) hx hb dL_law_21 (by decide) ?_
  refine lv_isub hx hb dL_law_23 ?_
  refine lv_topi (fun y_2 ey_2 => ?_)
  obtain rfl : y_2 = 0 := ey_2.trans (by decide)
  refine lv_icmp_gt (tgt := 1216) hx hb dL_law_24 (by decide) (fun c9 => absurd c9 (by decide)) (fun _ => ?_)
  obtain ⟨z0, ez0⟩ : ∃ z : Int32, z = xs 0 := ⟨_, rfl⟩
  refine lv_aload_n hx hb dL_law_27 rfl (lv_at hl 3 rfl) ?_
  refine lv_iload_n hx hb dL_law_28 rfl (lv_at hl 0 rfl) ?_
  refine va_sld hx hb hX hbl hbA hS (inr_ok rfl) dL_law_29 ?_
  refine W.eq (g2 := F0 m 30 ls [.int z0]) (congrArg (fun v : Int32 => F0 m 30 ls (.int v :: [])) (show xs (Int32.toNatClampNeg 0) = z0 from ez0.symm)) ?_
  refine lv_bipush (v := 63) hx hb dL_law_30 (by decide) ?_
  refine lv_iand hx hb dL_law_32 ?_
  refine lv_topi (fun y_3 ey_3 => ?_)
  exact law_switch hx hb _ h0 h1 h2 h3 h4 h5 h6 h7 h8 h9 h10 h11 h12 h13 h14 h15 h16 h17 h18 h19 h20 h21 h22 h23 h24 h25 h26 h27 h28 h29 h30 h31 h32 h33 h34 h35 hd
def wFull (xo : Nat) (xq1 : Nat) (xq3 : Nat) (xq7 : Nat) (xq12 : Nat) (xq14 : Nat) (xq24 : Nat) (xq34 : Nat) (xq36 : Nat) (xq38 : Nat) (xq48 : Nat) (xq51 : Nat) (xq53 : Nat) (xq55 : Nat) (xq57 : Nat) (xq59 : Nat) (xk2 : ClassId) (xq5 : Nat) (xq6 : Nat) (xq9 : Nat) (xq10 : Nat) (xq11 : Nat) (xk13 : ClassId) (xq61 : Nat) (xq64 : Nat) (xq67 : Nat) (xq70 : Nat) (xq73 : Nat) (xq76 : Nat) (xq16 : Nat) (xq17 : Nat) (xq18 : Nat) (xq19 : Nat) (xk20 : ClassId) (xk21 : ClassId) (xk22 : ClassId) (xk23 : ClassId) (xq26 : Nat) (xq27 : Nat) (xq28 : Nat) (xq29 : Nat) (xk30 : ClassId) (xk31 : ClassId) (xk32 : ClassId) (xk33 : ClassId) (xq40 : Nat) (xq41 : Nat) (xq42 : Nat) (xq43 : Nat) (xk44 : ClassId) (xk45 : ClassId) (xk46 : ClassId) (xk47 : ClassId) (xq50 : Nat) (xk52 : ClassId) (xq79 : Nat) (xq100 : Nat) (xq121 : Nat) (xq142 : Nat) (xq63 : Nat) (xq81 : Nat) (xq86 : Nat) (xq87 : Nat) (xq82 : Nat) (xq83 : Nat) (xq84 : Nat) (xq85 : Nat) (xk92 : ClassId) (xk93 : ClassId) (xk94 : ClassId) (xk95 : ClassId) (xq88 : Nat) (xq89 : Nat) (xq90 : Nat) (xq91 : Nat) (xk96 : ClassId) (xk97 : ClassId) (xk98 : ClassId) (xk99 : ClassId) (xq102 : Nat) (xq107 : Nat) (xq108 : Nat) (xq103 : Nat) (xq104 : Nat) (xq105 : Nat) (xq106 : Nat) (xk113 : ClassId) (xk114 : ClassId) (xk115 : ClassId) (xk116 : ClassId) (xq109 : Nat) (xq110 : Nat) (xq111 : Nat) (xq112 : Nat) (xk117 : ClassId) (xk118 : ClassId) (xk119 : ClassId) (xk120 : ClassId) (xq123 : Nat) (xq128 : Nat) (xq129 : Nat) (xq124 : Nat) (xq125 : Nat) (xq126 : Nat) (xq127 : Nat) (xk134 : ClassId) (xk135 : ClassId) (xk136 : ClassId) (xk137 : ClassId) (xq130 : Nat) (xq131 : Nat) (xq132 : Nat) (xq133 : Nat) (xk138 : ClassId) (xk139 : ClassId) (xk140 : ClassId) (xk141 : ClassId) (xq144 : Nat) (xq149 : Nat) (xq150 : Nat) (xq145 : Nat) (xq146 : Nat) (xq147 : Nat) (xq148 : Nat) (xk155 : ClassId) (xk156 : ClassId) (xk157 : ClassId) (xk158 : ClassId) (xq151 : Nat) (xq152 : Nat) (xq153 : Nat) (xq154 : Nat) (xk159 : ClassId) (xk160 : ClassId) (xk161 : ClassId) (xk162 : ClassId) (mo : Nat) (mq1 : Nat) (mq3 : Nat) (mq5 : Nat) (mq7 : Nat) (mq9 : Nat) (mq11 : Nat) (mq13 : Nat) (mq15 : Nat) (mq17 : Nat) (mq19 : Nat) (mq21 : Nat) (mq23 : Nat) (mq25 : Nat) (mq27 : Nat) (mq29 : Nat) (mq31 : Nat) (mq33 : Nat) (mq35 : Nat) (mq37 : Nat) (mq39 : Nat) (mq41 : Nat) (mk2 : ClassId) (mk6 : ClassId) (mk10 : ClassId) (mk12 : ClassId) (mk20 : ClassId) (mk36 : ClassId) (mk38 : ClassId) (mk40 : ClassId) (mk42 : ClassId) : va_W := [(xo, .inr (11, [.ref xq1, .int 0, .ref xq3, .ref xq7, .ref xq12, .int 0, .int (-1), .ref xq14, .ref xq24, .ref xq34, .ref xq36, .ref xq38, .ref xq48, .ref xq51, .ref xq53, .ref xq55, .ref xq57, .ref xq59, .int 0])), (xq1, .inl (xk2, 400, .inl (fun _ => 0))), (xq3, .inr (2, [.ref xq5])), (xq5, .inr (7, [.ref xq6, .int 0, .int 0, .int 0])), (xq7, .inr (10, [.ref xq9, .ref xq10, .int 0])), (xq9, .inr (7, [.ref xq11, .int 0, .int 0, .int 0])), (xq12, .inl (xk13, 6, .inr (.inr (.inr (.inr (va_up (va_up (va_up (va_up (va_up (va_up (fun _ => none) (Int32.toNatClampNeg 0) (some xq61)) (Int32.toNatClampNeg 1) (some xq64)) (Int32.toNatClampNeg 2) (some xq67)) (Int32.toNatClampNeg 3) (some xq70)) (Int32.toNatClampNeg 4) (some xq73)) (Int32.toNatClampNeg 5) (some xq76))))))), (xq14, .inr (1, [.int 0, .int 0, .int 0, .ref xq16, .ref xq17, .ref xq18, .ref xq19])), (xq16, .inl (xk20, 8, .inl (fun _ => 0))), (xq17, .inl (xk21, 8, .inl (fun _ => 0))), (xq18, .inl (xk22, 8, .inl (fun _ => 0))), (xq19, .inl (xk23, 8, .inl (fun _ => 0))), (xq24, .inr (1, [.int 0, .int 0, .int 0, .ref xq26, .ref xq27, .ref xq28, .ref xq29])), (xq26, .inl (xk30, 8, .inl (fun _ => 0))), (xq27, .inl (xk31, 8, .inl (fun _ => 0))), (xq28, .inl (xk32, 8, .inl (fun _ => 0))), (xq29, .inl (xk33, 8, .inl (fun _ => 0))), (xq34, .inr (3, [.int 0, .int (-1), .int 0, .int 0, .int 0, .long 0])), (xq38, .inr (5, [.int 0, .ref xq40, .ref xq41, .ref xq42, .ref xq43])), (xq40, .inl (xk44, 10, .inl (fun _ => 0))), (xq41, .inl (xk45, 10, .inl (fun _ => 0))), (xq42, .inl (xk46, 10, .inl (fun _ => 0))), (xq43, .inl (xk47, 10, .inl (fun _ => 0))), (xq48, .inr (6, [.ref xq50, .int 0, .int 0])), (xq51, .inl (xk52, 4, .inr (.inr (.inr (.inr (va_up (va_up (va_up (va_up (fun _ => none) (Int32.toNatClampNeg 0) (some xq79)) (Int32.toNatClampNeg 1) (some xq100)) (Int32.toNatClampNeg 2) (some xq121)) (Int32.toNatClampNeg 3) (some xq142))))))), (xq61, .inr (9, [.ref xq63, .int 0, .int 0])), (xq79, .inr (4, [.int 0, .ref xq81, .ref xq86, .ref xq87, .int (-1), .int 0])), (xq81, .inr (1, [.int 0, .int 0, .int 0, .ref xq82, .ref xq83, .ref xq84, .ref xq85])), (xq82, .inl (xk92, 8, .inl (fun _ => 0))), (xq83, .inl (xk93, 8, .inl (fun _ => 0))), (xq84, .inl (xk94, 8, .inl (fun _ => 0))), (xq85, .inl (xk95, 8, .inl (fun _ => 0))), (xq86, .inr (3, [.int 0, .int (-1), .int 0, .int 0, .int 0, .long 0])), (xq87, .inr (5, [.int 0, .ref xq88, .ref xq89, .ref xq90, .ref xq91])), (xq88, .inl (xk96, 10, .inl (fun _ => 0))), (xq89, .inl (xk97, 10, .inl (fun _ => 0))), (xq90, .inl (xk98, 10, .inl (fun _ => 0))), (xq91, .inl (xk99, 10, .inl (fun _ => 0))), (xq100, .inr (4, [.int 0, .ref xq102, .ref xq107, .ref xq108, .int (-1), .int 0])), (xq102, .inr (1, [.int 0, .int 0, .int 0, .ref xq103, .ref xq104, .ref xq105, .ref xq106])), (xq103, .inl (xk113, 8, .inl (fun _ => 0))), (xq104, .inl (xk114, 8, .inl (fun _ => 0))), (xq105, .inl (xk115, 8, .inl (fun _ => 0))), (xq106, .inl (xk116, 8, .inl (fun _ => 0))), (xq107, .inr (3, [.int 0, .int (-1), .int 0, .int 0, .int 0, .long 0])), (xq108, .inr (5, [.int 0, .ref xq109, .ref xq110, .ref xq111, .ref xq112])), (xq109, .inl (xk117, 10, .inl (fun _ => 0))), (xq110, .inl (xk118, 10, .inl (fun _ => 0))), (xq111, .inl (xk119, 10, .inl (fun _ => 0))), (xq112, .inl (xk120, 10, .inl (fun _ => 0))), (xq121, .inr (4, [.int 0, .ref xq123, .ref xq128, .ref xq129, .int (-1), .int 0])), (xq123, .inr (1, [.int 0, .int 0, .int 0, .ref xq124, .ref xq125, .ref xq126, .ref xq127])), (xq124, .inl (xk134, 8, .inl (fun _ => 0))), (xq125, .inl (xk135, 8, .inl (fun _ => 0))), (xq126, .inl (xk136, 8, .inl (fun _ => 0))), (xq127, .inl (xk137, 8, .inl (fun _ => 0))), (xq128, .inr (3, [.int 0, .int (-1), .int 0, .int 0, .int 0, .long 0])), (xq129, .inr (5, [.int 0, .ref xq130, .ref xq131, .ref xq132, .ref xq133])), (xq130, .inl (xk138, 10, .inl (fun _ => 0))), (xq131, .inl (xk139, 10, .inl (fun _ => 0))), (xq132, .inl (xk140, 10, .inl (fun _ => 0))), (xq133, .inl (xk141, 10, .inl (fun _ => 0))), (xq142, .inr (4, [.int 0, .ref xq144, .ref xq149, .ref xq150, .int (-1), .int 0])), (xq144, .inr (1, [.int 0, .int 0, .int 0, .ref xq145, .ref xq146, .ref xq147, .ref xq148])), (xq145, .inl (xk155, 8, .inl (fun _ => 0))), (xq146, .inl (xk156, 8, .inl (fun _ => 0))), (xq147, .inl (xk157, 8, .inl (fun _ => 0))), (xq148, .inl (xk158, 8, .inl (fun _ => 0))), (xq149, .inr (3, [.int 0, .int (-1), .int 0, .int 0, .int 0, .long 0])), (xq150, .inr (5, [.int 0, .ref xq151, .ref xq152, .ref xq153, .ref xq154])), (xq151, .inl (xk159, 10, .inl (fun _ => 0))), (xq152, .inl (xk160, 10, .inl (fun _ => 0))), (xq153, .inl (xk161, 10, .inl (fun _ => 0))), (xq154, .inl (xk162, 10, .inl (fun _ => 0))), (mo, .inr (12, [.ref mq1, .int 0, .int 0, .ref mq3, .ref mq5, .ref mq7, .ref mq9, .ref mq11, .int 0, .int 0, .int 0, .int 0, .int 0, .int 0, .int 0, .ref mq13, .int 0, .ref mq15, .int 0, .ref mq17, .ref mq19, .int (-1), .int 0, .int 0, .int 0, .int 0, .int 0, .ref mq21, .int 0, .ref mq23, .ref mq25, .ref mq27, .int 0, .int 0, .int 0, .ref mq29, .ref mq31, .ref mq33, .long 0, .ref mq35, .ref mq37, .ref mq39, .ref mq41])), (mq1, .inl (mk2, 400, .inl (fun _ => 0))), (mq5, .inl (mk6, 7, .inl (fun _ => 0))), (mq9, .inl (mk10, 6, .inl (fun _ => 0))), (mq11, .inl (mk12, 59, .inl (fun _ => 0))), (mq19, .inl (mk20, 100, .inl (fun _ => 0))), (mq35, .inl (mk36, 400, .inl (fun _ => 0))), (mq37, .inl (mk38, 4, .inl (fun _ => 0))), (mq39, .inl (mk40, 4, .inl (fun _ => 0))), (mq41, .inl (mk42, 4, .inl (fun _ => 0)))]
def tFull (xk2 : ClassId) (xk13 : ClassId) (xk20 : ClassId) (xk21 : ClassId) (xk22 : ClassId) (xk23 : ClassId) (xk30 : ClassId) (xk31 : ClassId) (xk32 : ClassId) (xk33 : ClassId) (xk44 : ClassId) (xk45 : ClassId) (xk46 : ClassId) (xk47 : ClassId) (xk52 : ClassId) (xk92 : ClassId) (xk93 : ClassId) (xk94 : ClassId) (xk95 : ClassId) (xk96 : ClassId) (xk97 : ClassId) (xk98 : ClassId) (xk99 : ClassId) (xk113 : ClassId) (xk114 : ClassId) (xk115 : ClassId) (xk116 : ClassId) (xk117 : ClassId) (xk118 : ClassId) (xk119 : ClassId) (xk120 : ClassId) (xk134 : ClassId) (xk135 : ClassId) (xk136 : ClassId) (xk137 : ClassId) (xk138 : ClassId) (xk139 : ClassId) (xk140 : ClassId) (xk141 : ClassId) (xk155 : ClassId) (xk156 : ClassId) (xk157 : ClassId) (xk158 : ClassId) (xk159 : ClassId) (xk160 : ClassId) (xk161 : ClassId) (xk162 : ClassId) (mk2 : ClassId) (mk6 : ClassId) (mk10 : ClassId) (mk12 : ClassId) (mk20 : ClassId) (mk36 : ClassId) (mk38 : ClassId) (mk40 : ClassId) (mk42 : ClassId) : List (ClassId × FieldType) := [(xk2, .int), (xk13, .object RX9), (xk20, .int), (xk21, .int), (xk22, .int), (xk23, .int), (xk30, .int), (xk31, .int), (xk32, .int), (xk33, .int), (xk44, .int), (xk45, .int), (xk46, .int), (xk47, .int), (xk52, .object RX4), (xk92, .int), (xk93, .int), (xk94, .int), (xk95, .int), (xk96, .int), (xk97, .int), (xk98, .int), (xk99, .int), (xk113, .int), (xk114, .int), (xk115, .int), (xk116, .int), (xk117, .int), (xk118, .int), (xk119, .int), (xk120, .int), (xk134, .int), (xk135, .int), (xk136, .int), (xk137, .int), (xk138, .int), (xk139, .int), (xk140, .int), (xk141, .int), (xk155, .int), (xk156, .int), (xk157, .int), (xk158, .int), (xk159, .int), (xk160, .int), (xk161, .int), (xk162, .int), (mk2, .byte), (mk6, .int), (mk10, .int), (mk12, .int), (mk20, .int), (mk36, .int), (mk38, .int), (mk40, .int), (mk42, .boolean)]
