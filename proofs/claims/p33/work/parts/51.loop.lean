theorem dL_law_18 : decode cL_law 18 = .ok (.iload_n 3, 1) := by decide +kernel
theorem dL_law_19 : decode cL_law 19 = .ok (.aload_n 0, 1) := by decide +kernel
theorem dL_law_20 : decode cL_law 20 = .ok (.arraylength, 1) := by decide +kernel
theorem dL_law_21 : decode cL_law 21 = .ok (.bipush 6, 2) := by decide +kernel
theorem dL_law_23 : decode cL_law 23 = .ok (.isub, 1) := by decide +kernel
theorem dL_law_24 : decode cL_law 24 = .ok (.if_icmp .gt 1192, 3) := by decide +kernel
theorem dL_law_27 : decode cL_law 27 = .ok (.aload_n 0, 1) := by decide +kernel
theorem dL_law_28 : decode cL_law 28 = .ok (.iload_n 3, 1) := by decide +kernel
theorem dL_law_29 : decode cL_law 29 = .ok (.iaload, 1) := by decide +kernel
theorem dL_law_30 : decode cL_law 30 = .ok (.bipush 63, 2) := by decide +kernel
theorem dL_law_32 : decode cL_law 32 = .ok (.iand, 1) := by decide +kernel
theorem dL_law_33 : decode cL_law 33 = .ok (.tableswitch 1177 0 35 #[159, 222, 245, 258, 271, 294, 327, 360, 383, 406, 419, 442, 465, 488, 521, 534, 577, 600, 613, 636, 669, 702, 725, 748, 771, 804, 857, 890, 923, 976, 999, 1032, 1055, 1108, 1131, 1154], 159) := by decide +kernel
theorem dL_law_1210 : decode cL_law 1210 = .ok (.iinc 3 6, 3) := by decide +kernel
theorem dL_law_1213 : decode cL_law 1213 = .ok (.goto (-1195), 3) := by decide +kernel
theorem dL_law_1216 : decode cL_law 1216 = .ok (.iconst 1, 1) := by decide +kernel
theorem dL_law_1217 : decode cL_law 1217 = .ok (.ireturn, 1) := by decide +kernel
theorem c36 (x : Int32) : x = 0 ∨ x = 1 ∨ x = 2 ∨ x = 3 ∨ x = 4 ∨ x = 5 ∨ x = 6 ∨ x = 7 ∨ x = 8 ∨ x = 9 ∨ x = 10 ∨ x = 11 ∨ x = 12 ∨ x = 13 ∨ x = 14 ∨ x = 15 ∨ x = 16 ∨ x = 17 ∨ x = 18 ∨ x = 19 ∨ x = 20 ∨ x = 21 ∨ x = 22 ∨ x = 23 ∨ x = 24 ∨ x = 25 ∨ x = 26 ∨ x = 27 ∨ x = 28 ∨ x = 29 ∨ x = 30 ∨ x = 31 ∨ x = 32 ∨ x = 33 ∨ x = 34 ∨ x = 35 ∨ (x.toInt < 0 ∨ 35 < x.toInt) := by
  have e : ∀ k : Int32, x = k ↔ x.toInt = k.toInt := fun k => Int32.toInt_inj.symm
  simp only [e, show (0 : Int32).toInt = 0 from rfl, show (1 : Int32).toInt = 1 from rfl, show (2 : Int32).toInt = 2 from rfl, show (3 : Int32).toInt = 3 from rfl, show (4 : Int32).toInt = 4 from rfl, show (5 : Int32).toInt = 5 from rfl, show (6 : Int32).toInt = 6 from rfl, show (7 : Int32).toInt = 7 from rfl, show (8 : Int32).toInt = 8 from rfl, show (9 : Int32).toInt = 9 from rfl, show (10 : Int32).toInt = 10 from rfl, show (11 : Int32).toInt = 11 from rfl, show (12 : Int32).toInt = 12 from rfl, show (13 : Int32).toInt = 13 from rfl, show (14 : Int32).toInt = 14 from rfl, show (15 : Int32).toInt = 15 from rfl, show (16 : Int32).toInt = 16 from rfl, show (17 : Int32).toInt = 17 from rfl, show (18 : Int32).toInt = 18 from rfl, show (19 : Int32).toInt = 19 from rfl, show (20 : Int32).toInt = 20 from rfl, show (21 : Int32).toInt = 21 from rfl, show (22 : Int32).toInt = 22 from rfl, show (23 : Int32).toInt = 23 from rfl, show (24 : Int32).toInt = 24 from rfl, show (25 : Int32).toInt = 25 from rfl, show (26 : Int32).toInt = 26 from rfl, show (27 : Int32).toInt = 27 from rfl, show (28 : Int32).toInt = 28 from rfl, show (29 : Int32).toInt = 29 from rfl, show (30 : Int32).toInt = 30 from rfl, show (31 : Int32).toInt = 31 from rfl, show (32 : Int32).toInt = 32 from rfl, show (33 : Int32).toInt = 33 from rfl, show (34 : Int32).toInt = 34 from rfl, show (35 : Int32).toInt = 35 from rfl]
  omega
set_option maxHeartbeats 4000000 in
set_option maxRecDepth 100000 in
theorem law_switch {p : Program} {l : Launch} {e : Env} {R : Room} {s : State} {m : MethodId} {args : Array Value} {below : List Frame} {meth : Method} {c : Code} {H : Heap} {locs : List Loc} {cells slots : Nat} {Q : State → Prop} {ls : Array Slot} (hx : p.tables.exec = Jvm.exec) (hb : c.code = cL_law) (y : Int32)
    (h0 : W p l e R s m args below meth c H locs cells slots Q (F0 m 192 ls []))
    (h1 : W p l e R s m args below meth c H locs cells slots Q (F0 m 255 ls []))
    (h2 : W p l e R s m args below meth c H locs cells slots Q (F0 m 278 ls []))
    (h3 : W p l e R s m args below meth c H locs cells slots Q (F0 m 291 ls []))
    (h4 : W p l e R s m args below meth c H locs cells slots Q (F0 m 304 ls []))
    (h5 : W p l e R s m args below meth c H locs cells slots Q (F0 m 327 ls []))
    (h6 : W p l e R s m args below meth c H locs cells slots Q (F0 m 360 ls []))
    (h7 : W p l e R s m args below meth c H locs cells slots Q (F0 m 393 ls []))
    (h8 : W p l e R s m args below meth c H locs cells slots Q (F0 m 416 ls []))
    (h9 : W p l e R s m args below meth c H locs cells slots Q (F0 m 439 ls []))
    (h10 : W p l e R s m args below meth c H locs cells slots Q (F0 m 452 ls []))
    (h11 : W p l e R s m args below meth c H locs cells slots Q (F0 m 475 ls []))
    (h12 : W p l e R s m args below meth c H locs cells slots Q (F0 m 498 ls []))
    (h13 : W p l e R s m args below meth c H locs cells slots Q (F0 m 521 ls []))
    (h14 : W p l e R s m args below meth c H locs cells slots Q (F0 m 554 ls []))
    (h15 : W p l e R s m args below meth c H locs cells slots Q (F0 m 567 ls []))
    (h16 : W p l e R s m args below meth c H locs cells slots Q (F0 m 610 ls []))
    (h17 : W p l e R s m args below meth c H locs cells slots Q (F0 m 633 ls []))
    (h18 : W p l e R s m args below meth c H locs cells slots Q (F0 m 646 ls []))
    (h19 : W p l e R s m args below meth c H locs cells slots Q (F0 m 669 ls []))
    (h20 : W p l e R s m args below meth c H locs cells slots Q (F0 m 702 ls []))
    (h21 : W p l e R s m args below meth c H locs cells slots Q (F0 m 735 ls []))
    (h22 : W p l e R s m args below meth c H locs cells slots Q (F0 m 758 ls []))
    (h23 : W p l e R s m args below meth c H locs cells slots Q (F0 m 781 ls []))
    (h24 : W p l e R s m args below meth c H locs cells slots Q (F0 m 804 ls []))
    (h25 : W p l e R s m args below meth c H locs cells slots Q (F0 m 837 ls []))
    (h26 : W p l e R s m args below meth c H locs cells slots Q (F0 m 890 ls []))
    (h27 : W p l e R s m args below meth c H locs cells slots Q (F0 m 923 ls []))
    (h28 : W p l e R s m args below meth c H locs cells slots Q (F0 m 956 ls []))
    (h29 : W p l e R s m args below meth c H locs cells slots Q (F0 m 1009 ls []))
    (h30 : W p l e R s m args below meth c H locs cells slots Q (F0 m 1032 ls []))
    (h31 : W p l e R s m args below meth c H locs cells slots Q (F0 m 1065 ls []))
    (h32 : W p l e R s m args below meth c H locs cells slots Q (F0 m 1088 ls []))
    (h33 : W p l e R s m args below meth c H locs cells slots Q (F0 m 1141 ls []))
    (h34 : W p l e R s m args below meth c H locs cells slots Q (F0 m 1164 ls []))
    (h35 : W p l e R s m args below meth c H locs cells slots Q (F0 m 1187 ls []))
    (hd : W p l e R s m args below meth c H locs cells slots Q (F0 m 1210 ls [])) : W p l e R s m args below meth c H locs cells slots Q (F0 m 33 ls [.int y]) := by
  rcases c36 y with rfl | rfl | rfl | rfl | rfl | rfl | rfl | rfl | rfl | rfl | rfl | rfl | rfl | rfl | rfl | rfl | rfl | rfl | rfl | rfl | rfl | rfl | rfl | rfl | rfl | rfl | rfl | rfl | rfl | rfl | rfl | rfl | rfl | rfl | rfl | rfl | hout
  · exact lv_tableIn (tgt := 192) hx hb dL_law_33 (by decide) (by decide) (off := 159) (by decide) (by decide) h0
  · exact lv_tableIn (tgt := 255) hx hb dL_law_33 (by decide) (by decide) (off := 222) (by decide) (by decide) h1
  · exact lv_tableIn (tgt := 278) hx hb dL_law_33 (by decide) (by decide) (off := 245) (by decide) (by decide) h2
  · exact lv_tableIn (tgt := 291) hx hb dL_law_33 (by decide) (by decide) (off := 258) (by decide) (by decide) h3
  · exact lv_tableIn (tgt := 304) hx hb dL_law_33 (by decide) (by decide) (off := 271) (by decide) (by decide) h4
  · exact lv_tableIn (tgt := 327) hx hb dL_law_33 (by decide) (by decide) (off := 294) (by decide) (by decide) h5
  · exact lv_tableIn (tgt := 360) hx hb dL_law_33 (by decide) (by decide) (off := 327) (by decide) (by decide) h6
  · exact lv_tableIn (tgt := 393) hx hb dL_law_33 (by decide) (by decide) (off := 360) (by decide) (by decide) h7
  · exact lv_tableIn (tgt := 416) hx hb dL_law_33 (by decide) (by decide) (off := 383) (by decide) (by decide) h8
  · exact lv_tableIn (tgt := 439) hx hb dL_law_33 (by decide) (by decide) (off := 406) (by decide) (by decide) h9
  · exact lv_tableIn (tgt := 452) hx hb dL_law_33 (by decide) (by decide) (off := 419) (by decide) (by decide) h10
  · exact lv_tableIn (tgt := 475) hx hb dL_law_33 (by decide) (by decide) (off := 442) (by decide) (by decide) h11
  · exact lv_tableIn (tgt := 498) hx hb dL_law_33 (by decide) (by decide) (off := 465) (by decide) (by decide) h12
  · exact lv_tableIn (tgt := 521) hx hb dL_law_33 (by decide) (by decide) (off := 488) (by decide) (by decide) h13
  · exact lv_tableIn (tgt := 554) hx hb dL_law_33 (by decide) (by decide) (off := 521) (by decide) (by decide) h14
  · exact lv_tableIn (tgt := 567) hx hb dL_law_33 (by decide) (by decide) (off := 534) (by decide) (by decide) h15
  · exact lv_tableIn (tgt := 610) hx hb dL_law_33 (by decide) (by decide) (off := 577) (by decide) (by decide) h16
  · exact lv_tableIn (tgt := 633) hx hb dL_law_33 (by decide) (by decide) (off := 600) (by decide) (by decide) h17
  · exact lv_tableIn (tgt := 646) hx hb dL_law_33 (by decide) (by decide) (off := 613) (by decide) (by decide) h18
  · exact lv_tableIn (tgt := 669) hx hb dL_law_33 (by decide) (by decide) (off := 636) (by decide) (by decide) h19
  · exact lv_tableIn (tgt := 702) hx hb dL_law_33 (by decide) (by decide) (off := 669) (by decide) (by decide) h20
  · exact lv_tableIn (tgt := 735) hx hb dL_law_33 (by decide) (by decide) (off := 702) (by decide) (by decide) h21
  · exact lv_tableIn (tgt := 758) hx hb dL_law_33 (by decide) (by decide) (off := 725) (by decide) (by decide) h22
  · exact lv_tableIn (tgt := 781) hx hb dL_law_33 (by decide) (by decide) (off := 748) (by decide) (by decide) h23
  · exact lv_tableIn (tgt := 804) hx hb dL_law_33 (by decide) (by decide) (off := 771) (by decide) (by decide) h24
  · exact lv_tableIn (tgt := 837) hx hb dL_law_33 (by decide) (by decide) (off := 804) (by decide) (by decide) h25
  · exact lv_tableIn (tgt := 890) hx hb dL_law_33 (by decide) (by decide) (off := 857) (by decide) (by decide) h26
  · exact lv_tableIn (tgt := 923) hx hb dL_law_33 (by decide) (by decide) (off := 890) (by decide) (by decide) h27
  · exact lv_tableIn (tgt := 956) hx hb dL_law_33 (by decide) (by decide) (off := 923) (by decide) (by decide) h28
  · exact lv_tableIn (tgt := 1009) hx hb dL_law_33 (by decide) (by decide) (off := 976) (by decide) (by decide) h29
  · exact lv_tableIn (tgt := 1032) hx hb dL_law_33 (by decide) (by decide) (off := 999) (by decide) (by decide) h30
  · exact lv_tableIn (tgt := 1065) hx hb dL_law_33 (by decide) (by decide) (off := 1032) (by decide) (by decide) h31
  · exact lv_tableIn (tgt := 1088) hx hb dL_law_33 (by decide) (by decide) (off := 1055) (by decide) (by decide) h32
  · exact lv_tableIn (tgt := 1141) hx hb dL_law_33 (by decide) (by decide) (off := 1108) (by decide) (by decide) h33
  · exact lv_tableIn (tgt := 1164) hx hb dL_law_33 (by decide) (by decide) (off := 1131) (by decide) (by decide) h34
  · exact lv_tableIn (tgt := 1187) hx hb dL_law_33 (by decide) (by decide) (off := 1154) (by decide) (by decide) h35
  · exact lv_tableOut (tgt := 1210) hx hb dL_law_33 hout (by decide) hd

set_option maxHeartbeats 4000000 in
set_option maxRecDepth 100000 in
theorem law_head {p : Program} {l : Launch} {e : Env} {s : State} {m : MethodId} {below : List Frame} {meth : Method} {c : Code} {A : Nat → Prop} {kA vA : Nat → Nat} {dC : Nat → ClassId} {dI : Nat → Nat → Nat} {b : Nat} {xs : Nat → Int32} {L : Nat} {a : Nat → Nat} {k : Nat → ClassId} {q : Nat → Nat → Option Nat} {a2 : Nat → Nat} {k2 : Nat → ClassId} {q2 : Nat → Nat → Option Nat} (C1 : lwC p s m meth c A kA vA dC dI b xs L a k q a2 k2) {x : Int32} {md ix : Nat → Int32} (hM : (∀ j : Nat, j < 4 → md j = 0 ∨ md j = 1)) {H : Heap} {locs : List Loc} (hX : xP dC dI a k q x md ix H) (hY : mP dC dI a2 k2 q2 x md ix H) (hS : va_S A s.heap H locs) {ls : Array Slot} {i : Int32} (hi : 0 ≤ i.toInt ∧ i.toInt ≤ 3072) (hl : lv_has ls 4 [(3, .int i), (2, .ref (a2 0)), (1, .ref (a 0)), (0, .ref b)]) : W p l e room_1 s m #[Value.ref b] below meth c H locs 152 8829 (lw_Z below #[Value.ref b] s) (F0 m 18 ls []) := by
  have C2 := C1
  obtain ⟨C0, hL, hA, hAq, hE, hT, hQ, hNx, hNm, hdx, hdm, hKx, hKm⟩ := C1
  obtain ⟨hx, hb, hr, hml, hown, hts, hXs, hbl, hlocks, hgv⟩ := id C0
  have hown : s.vm.findClass RL = some m.cls := hown
  have hq : ∀ w ∈ wsA, w.before _ s = true := fun w h => hts w (List.mem_filter.mp h).1
  have hbA : ¬ A b := fun h => Nat.not_le.mpr hbl (hAq b h)
  refine W.loop (I := fun n H locs g => ∃ (x : Int32) (md ix : Nat → Int32) (i : Int32) (ls : Array Slot), (∀ j : Nat, j < 4 → md j = 0 ∨ md j = 1) ∧ xP dC dI a k q x md ix H ∧ mP dC dI a2 k2 q2 x md ix H ∧ va_S A s.heap H locs ∧ lv_has ls 4 [(3, .int i), (2, .ref (a2 0)), (1, .ref (a 0)), (0, .ref b)] ∧ (0 ≤ i.toInt ∧ i.toInt ≤ 3072) ∧ 3078 - i.toInt < (n : Int) ∧ g = F0 m 18 ls []) (fun H locs g h => ?_) (fun n ih H locs g h => ?_) (n := 3079) ⟨x, md, ix, i, ls, hM, hX, hY, hS, hl, hi, by have := hi.1; omega, rfl⟩
  · obtain ⟨x, md, ix, i, ls, hM, hX, hY, hS, hl, hi, hm, rfl⟩ := h
    have := hi.2
    omega
  · obtain ⟨x, md, ix, i, ls, hM, hX, hY, hS, hl, hi, hm, rfl⟩ := h
    refine lv_iload_n hx hb dL_law_18 rfl (lv_at hl 0 rfl) ?_
    refine lv_aload_n hx hb dL_law_19 rfl (lv_at hl 3 rfl) ?_
    refine va_slen hx hb hXs hbl hbA hS dL_law_20 ?_
    refine lv_topi (fun n_1 en_1 => ?_)
    refine lv_bipush (v := 6) hx hb dL_law_21 (by decide) ?_
    refine lv_isub hx hb dL_law_23 ?_
    refine lv_topi (fun y_1 ey_1 => ?_)
    have e6 := len6 hL en_1 ey_1
    refine lv_icmp_gt (tgt := 1216) hx hb dL_law_24 (by decide) (fun c9 => ?_) (fun c9 => ?_)
    · refine lv_iconst (v := 1) hx hb dL_law_1216 (by decide) ?_
      refine va_forget (fun q hq => hAq _ (hS.2.2 q hq)) ?_
      refine W.widen (k := 600000) (n := 7302250) (Nat.le_of_ble_eq_true rfl) (Nat.le_of_ble_eq_true rfl) ?_
      exact lw_ret hx hb hr hlocks dL_law_1217
    · have hi6 : 0 ≤ i.toInt ∧ i.toInt + 6 ≤ (L : Int) := ⟨hi.1, by have := Int32.le_iff_toInt_le.mp (Int32.not_lt.mp c9); omega⟩
      have hC : ∀ (x : Int32) (md ix : Nat → Int32) (H : Heap) (locs : List Loc), (∀ j : Nat, j < 4 → md j = 0 ∨ md j = 1) → xP dC dI a k q x md ix H → mP dC dI a2 k2 q2 x md ix H → va_S A s.heap H locs → W p l e room_1 s m #[Value.ref b] below meth c H locs 152 8829 (lw_Z below #[Value.ref b] s) (F0 m 1210 ls []) := by
        intro x md ix H locs hM hX hY hS
        obtain ⟨y_2, ey_2⟩ : ∃ y : Int32, y = i + 6 := ⟨_, rfl⟩
        refine lv_iinc (v := y_2) (lv' := [(3, .int y_2), (2, .ref (a2 0)), (1, .ref (a 0)), (0, .ref b)]) hx hb dL_law_1210 hl (k := 0) rfl (by rw [ey_2]; rfl) (by decide) rfl (fun ls hl => ?_)
        refine lv_goto (tgt := 18) hx hb dL_law_1213 (by decide) ?_
        have m6 : (6 : Int32).toInt = 6 := rfl
        have e7 : y_2.toInt = i.toInt + 6 := by rw [ey_2]; exact i32_add (y := 6) (by omega) (by omega)
        exact ih _ _ _ ⟨x, md, ix, y_2, ls, hM, hX, hY, hS, hl, ⟨by omega, by omega⟩, by omega, rfl⟩
      refine lv_aload_n hx hb dL_law_27 rfl (lv_at hl 3 rfl) ?_
      refine lv_iload_n hx hb dL_law_28 rfl (lv_at hl 0 rfl) ?_
      refine va_sld hx hb hXs hbl hbA hS (sc_i0 hi6) dL_law_29 ?_
      refine lv_bipush (v := 63) hx hb dL_law_30 (by decide) ?_
      refine lv_iand hx hb dL_law_32 ?_
      exact law_switch hx hb _ (law_0 C2 hM hX hY hS hi6 hl hC) (law_1 C2 hM hX hY hS hi6 hl hC) (law_2 C2 hM hX hY hS hi6 hl hC) (law_3 C2 hM hX hY hS hi6 hl hC) (law_4 C2 hM hX hY hS hi6 hl hC) (law_5 C2 hM hX hY hS hi6 hl hC) (law_6 C2 hM hX hY hS hi6 hl hC) (law_7 C2 hM hX hY hS hi6 hl hC) (law_8 C2 hM hX hY hS hi6 hl hC) (law_9 C2 hM hX hY hS hi6 hl hC) (law_10 C2 hM hX hY hS hi6 hl hC) (law_11 C2 hM hX hY hS hi6 hl hC) (law_12 C2 hM hX hY hS hi6 hl hC) (law_13 C2 hM hX hY hS hi6 hl hC) (law_14 C2 hM hX hY hS hi6 hl hC) (law_15 C2 hM hX hY hS hi6 hl hC) (law_16 C2 hM hX hY hS hi6 hl hC) (law_17 C2 hM hX hY hS hi6 hl hC) (law_18 C2 hM hX hY hS hi6 hl hC) (law_19 C2 hM hX hY hS hi6 hl hC) (law_20 C2 hM hX hY hS hi6 hl hC) (law_21 C2 hM hX hY hS hi6 hl hC) (law_22 C2 hM hX hY hS hi6 hl hC) (law_23 C2 hM hX hY hS hi6 hl hC) (law_24 C2 hM hX hY hS hi6 hl hC) (law_25 C2 hM hX hY hS hi6 hl hC) (law_26 C2 hM hX hY hS hi6 hl hC) (law_27 C2 hM hX hY hS hi6 hl hC) (law_28 C2 hM hX hY hS hi6 hl hC) (law_29 C2 hM hX hY hS hi6 hl hC) (law_30 C2 hM hX hY hS hi6 hl hC) (law_31 C2 hM hX hY hS hi6 hl hC) (law_32 C2 hM hX hY hS hi6 hl hC) (law_33 C2 hM hX hY hS hi6 hl hC) (law_34 C2 hM hX hY hS hi6 hl hC) (law_35 C2 hM hX hY hS hi6 hl hC) (hC _ _ _ _ _ hM hX hY hS)
